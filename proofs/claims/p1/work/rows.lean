section
-- ===== PART A: goes FIRST, ahead of the names: the tables' words, and 'selects' of the private methods out of them =====
/-- a private method of a class that the tables say can be made, by its rows of tables_1 -/
def lw_okq (q : MethodName × Nat) : Prop := (q.1.cls ≠ "java/lang/invoke/MethodHandle" ∧ q.1.cls ≠ "java/lang/invoke/VarHandle") ∧ Cond.instantiable q.1.cls q.2 ∈ tables_1 ∧ Cond.privateMethod q.1 ∈ tables_1 ∧ Cond.instanceMethod q.1 ∈ tables_1
theorem lw_p0 : lw_okq (⟨"StatementCycle$Account", "sumOf", "(C)J"⟩, 9) := ⟨⟨by decide +kernel, by decide +kernel⟩, List.mem_of_getElem? (i := 216) (by decide +kernel), List.mem_of_getElem? (i := 214) (by decide +kernel), List.mem_of_getElem? (i := 215) (by decide +kernel)⟩
theorem lw_p1 : lw_okq (⟨"StatementCycle", "booksOf", "(LStatementCycle$Account;)LStatementCycle$Books;"⟩, 4) := ⟨⟨by decide +kernel, by decide +kernel⟩, List.mem_of_getElem? (i := 41) (by decide +kernel), List.mem_of_getElem? (i := 231) (by decide +kernel), List.mem_of_getElem? (i := 232) (by decide +kernel)⟩
theorem lw_p2 : lw_okq (⟨"StatementCycle$Books", "goThrough", "(LStatementCycle$Account;I)V"⟩, 17) := ⟨⟨by decide +kernel, by decide +kernel⟩, List.mem_of_getElem? (i := 78) (by decide +kernel), List.mem_of_getElem? (i := 235) (by decide +kernel), List.mem_of_getElem? (i := 236) (by decide +kernel)⟩
theorem lw_p3 : lw_okq (⟨"StatementCycle$Books", "clear", "()V"⟩, 17) := ⟨⟨by decide +kernel, by decide +kernel⟩, List.mem_of_getElem? (i := 78) (by decide +kernel), List.mem_of_getElem? (i := 239) (by decide +kernel), List.mem_of_getElem? (i := 240) (by decide +kernel)⟩
theorem lw_p4 : lw_okq (⟨"StatementCycle$Books", "changeTerms", "(LStatementCycle$Account;III)V"⟩, 17) := ⟨⟨by decide +kernel, by decide +kernel⟩, List.mem_of_getElem? (i := 78) (by decide +kernel), List.mem_of_getElem? (i := 248) (by decide +kernel), List.mem_of_getElem? (i := 249) (by decide +kernel)⟩
theorem lw_p5 : lw_okq (⟨"StatementCycle$Books", "close", "(I)V"⟩, 17) := ⟨⟨by decide +kernel, by decide +kernel⟩, List.mem_of_getElem? (i := 78) (by decide +kernel), List.mem_of_getElem? (i := 255) (by decide +kernel), List.mem_of_getElem? (i := 256) (by decide +kernel)⟩
theorem lw_p6 : lw_okq (⟨"StatementCycle$Books", "wasPaidInFull", "(I)Z"⟩, 17) := ⟨⟨by decide +kernel, by decide +kernel⟩, List.mem_of_getElem? (i := 78) (by decide +kernel), List.mem_of_getElem? (i := 259) (by decide +kernel), List.mem_of_getElem? (i := 260) (by decide +kernel)⟩
theorem lw_p7 : lw_okq (⟨"StatementCycle$Books", "chargeInterest", "(Z)J"⟩, 17) := ⟨⟨by decide +kernel, by decide +kernel⟩, List.mem_of_getElem? (i := 78) (by decide +kernel), List.mem_of_getElem? (i := 263) (by decide +kernel), List.mem_of_getElem? (i := 264) (by decide +kernel)⟩
theorem lw_p8 : lw_okq (⟨"StatementCycle$Books", "net", "()J"⟩, 17) := ⟨⟨by decide +kernel, by decide +kernel⟩, List.mem_of_getElem? (i := 78) (by decide +kernel), List.mem_of_getElem? (i := 269) (by decide +kernel), List.mem_of_getElem? (i := 270) (by decide +kernel)⟩
theorem lw_p9 : lw_okq (⟨"StatementCycle$Books", "leastOf", "(LStatementCycle$Statement;I)J"⟩, 17) := ⟨⟨by decide +kernel, by decide +kernel⟩, List.mem_of_getElem? (i := 78) (by decide +kernel), List.mem_of_getElem? (i := 273) (by decide +kernel), List.mem_of_getElem? (i := 274) (by decide +kernel)⟩
theorem lw_p10 : lw_okq (⟨"StatementCycle$Books", "happen", "(LStatementCycle$Event;)V"⟩, 17) := ⟨⟨by decide +kernel, by decide +kernel⟩, List.mem_of_getElem? (i := 78) (by decide +kernel), List.mem_of_getElem? (i := 285) (by decide +kernel), List.mem_of_getElem? (i := 286) (by decide +kernel)⟩
theorem lw_p11 : lw_okq (⟨"StatementCycle$Books", "takeBuy", "(IJ)V"⟩, 17) := ⟨⟨by decide +kernel, by decide +kernel⟩, List.mem_of_getElem? (i := 78) (by decide +kernel), List.mem_of_getElem? (i := 289) (by decide +kernel), List.mem_of_getElem? (i := 290) (by decide +kernel)⟩
theorem lw_p12 : lw_okq (⟨"StatementCycle$Books", "takePayment", "(J)V"⟩, 17) := ⟨⟨by decide +kernel, by decide +kernel⟩, List.mem_of_getElem? (i := 78) (by decide +kernel), List.mem_of_getElem? (i := 293) (by decide +kernel), List.mem_of_getElem? (i := 294) (by decide +kernel)⟩
theorem lw_p13 : lw_okq (⟨"StatementCycle$Books", "stillMissing", "()J"⟩, 17) := ⟨⟨by decide +kernel, by decide +kernel⟩, List.mem_of_getElem? (i := 78) (by decide +kernel), List.mem_of_getElem? (i := 297) (by decide +kernel), List.mem_of_getElem? (i := 298) (by decide +kernel)⟩
theorem lw_p14 : lw_okq (⟨"StatementCycle$Books", "lay", "(JZ)J"⟩, 17) := ⟨⟨by decide +kernel, by decide +kernel⟩, List.mem_of_getElem? (i := 78) (by decide +kernel), List.mem_of_getElem? (i := 301) (by decide +kernel), List.mem_of_getElem? (i := 302) (by decide +kernel)⟩
theorem lw_p15 : lw_okq (⟨"StatementCycle$Books", "nextBucket", "(IZ)I"⟩, 17) := ⟨⟨by decide +kernel, by decide +kernel⟩, List.mem_of_getElem? (i := 78) (by decide +kernel), List.mem_of_getElem? (i := 305) (by decide +kernel), List.mem_of_getElem? (i := 306) (by decide +kernel)⟩
def lw_privs_1 : List (MethodName × Nat) := [(⟨"StatementCycle$Account", "sumOf", "(C)J"⟩, 9), (⟨"StatementCycle", "booksOf", "(LStatementCycle$Account;)LStatementCycle$Books;"⟩, 4), (⟨"StatementCycle$Books", "goThrough", "(LStatementCycle$Account;I)V"⟩, 17), (⟨"StatementCycle$Books", "clear", "()V"⟩, 17), (⟨"StatementCycle$Books", "changeTerms", "(LStatementCycle$Account;III)V"⟩, 17), (⟨"StatementCycle$Books", "close", "(I)V"⟩, 17), (⟨"StatementCycle$Books", "wasPaidInFull", "(I)Z"⟩, 17), (⟨"StatementCycle$Books", "chargeInterest", "(Z)J"⟩, 17), (⟨"StatementCycle$Books", "net", "()J"⟩, 17), (⟨"StatementCycle$Books", "leastOf", "(LStatementCycle$Statement;I)J"⟩, 17), (⟨"StatementCycle$Books", "happen", "(LStatementCycle$Event;)V"⟩, 17), (⟨"StatementCycle$Books", "takeBuy", "(IJ)V"⟩, 17), (⟨"StatementCycle$Books", "takePayment", "(J)V"⟩, 17), (⟨"StatementCycle$Books", "stillMissing", "()J"⟩, 17), (⟨"StatementCycle$Books", "lay", "(JZ)J"⟩, 17), (⟨"StatementCycle$Books", "nextBucket", "(IZ)I"⟩, 17)]
theorem lw_r1 : ∀ q ∈ lw_privs_1, lw_okq q := List.forall_mem_cons.mpr ⟨lw_p0, List.forall_mem_cons.mpr ⟨lw_p1, List.forall_mem_cons.mpr ⟨lw_p2, List.forall_mem_cons.mpr ⟨lw_p3, List.forall_mem_cons.mpr ⟨lw_p4, List.forall_mem_cons.mpr ⟨lw_p5, List.forall_mem_cons.mpr ⟨lw_p6, List.forall_mem_cons.mpr ⟨lw_p7, List.forall_mem_cons.mpr ⟨lw_p8, List.forall_mem_cons.mpr ⟨lw_p9, List.forall_mem_cons.mpr ⟨lw_p10, List.forall_mem_cons.mpr ⟨lw_p11, List.forall_mem_cons.mpr ⟨lw_p12, List.forall_mem_cons.mpr ⟨lw_p13, List.forall_mem_cons.mpr ⟨lw_p14, List.forall_mem_cons.mpr ⟨lw_p15, fun _ h => absurd h List.not_mem_nil⟩⟩⟩⟩⟩⟩⟩⟩⟩⟩⟩⟩⟩⟩⟩⟩
theorem lw_p16 : lw_okq (⟨"StatementCycle$Books", "chargeFee", "(J)V"⟩, 17) := ⟨⟨by decide +kernel, by decide +kernel⟩, List.mem_of_getElem? (i := 78) (by decide +kernel), List.mem_of_getElem? (i := 309) (by decide +kernel), List.mem_of_getElem? (i := 310) (by decide +kernel)⟩
theorem lw_p17 : lw_okq (⟨"StatementCycle$Books", "endDay", "(LStatementCycle$Account;I)V"⟩, 17) := ⟨⟨by decide +kernel, by decide +kernel⟩, List.mem_of_getElem? (i := 78) (by decide +kernel), List.mem_of_getElem? (i := 313) (by decide +kernel), List.mem_of_getElem? (i := 314) (by decide +kernel)⟩
theorem lw_p18 : lw_okq (⟨"StatementCycle$Books", "fallDue", "(I)V"⟩, 17) := ⟨⟨by decide +kernel, by decide +kernel⟩, List.mem_of_getElem? (i := 78) (by decide +kernel), List.mem_of_getElem? (i := 317) (by decide +kernel), List.mem_of_getElem? (i := 318) (by decide +kernel)⟩
theorem lw_p19 : lw_okq (⟨"StatementCycle$Books", "wasOneMissed", "(I)Z"⟩, 17) := ⟨⟨by decide +kernel, by decide +kernel⟩, List.mem_of_getElem? (i := 78) (by decide +kernel), List.mem_of_getElem? (i := 321) (by decide +kernel), List.mem_of_getElem? (i := 322) (by decide +kernel)⟩
theorem lw_p20 : lw_okq (⟨"StatementCycle$Account", "frozenOn", "(II)J"⟩, 9) := ⟨⟨by decide +kernel, by decide +kernel⟩, List.mem_of_getElem? (i := 216) (by decide +kernel), List.mem_of_getElem? (i := 329) (by decide +kernel), List.mem_of_getElem? (i := 330) (by decide +kernel)⟩
theorem lw_p21 : lw_okq (⟨"StatementCycle$Event", "wasFrozenOn", "(I)Z"⟩, 9) := ⟨⟨by decide +kernel, by decide +kernel⟩, List.mem_of_getElem? (i := 335) (by decide +kernel), List.mem_of_getElem? (i := 333) (by decide +kernel), List.mem_of_getElem? (i := 334) (by decide +kernel)⟩
theorem lw_p22 : lw_okq (⟨"StatementCycle$Account", "countPoints", "()J"⟩, 9) := ⟨⟨by decide +kernel, by decide +kernel⟩, List.mem_of_getElem? (i := 216) (by decide +kernel), List.mem_of_getElem? (i := 339) (by decide +kernel), List.mem_of_getElem? (i := 340) (by decide +kernel)⟩
theorem lw_p23 : lw_okq (⟨"StatementCycle$Books", "isBalanced", "(LStatementCycle$Account;)Z"⟩, 17) := ⟨⟨by decide +kernel, by decide +kernel⟩, List.mem_of_getElem? (i := 78) (by decide +kernel), List.mem_of_getElem? (i := 347) (by decide +kernel), List.mem_of_getElem? (i := 348) (by decide +kernel)⟩
theorem lw_p24 : lw_okq (⟨"StatementCycle$Books", "hasStatementsOf", "(LStatementCycle$Books;)Z"⟩, 17) := ⟨⟨by decide +kernel, by decide +kernel⟩, List.mem_of_getElem? (i := 78) (by decide +kernel), List.mem_of_getElem? (i := 352) (by decide +kernel), List.mem_of_getElem? (i := 353) (by decide +kernel)⟩
theorem lw_p25 : lw_okq (⟨"StatementCycle$Statement", "isLike", "(LStatementCycle$Statement;)Z"⟩, 5) := ⟨⟨by decide +kernel, by decide +kernel⟩, List.mem_of_getElem? (i := 85) (by decide +kernel), List.mem_of_getElem? (i := 356) (by decide +kernel), List.mem_of_getElem? (i := 357) (by decide +kernel)⟩
theorem lw_p26 : lw_okq (⟨"java/lang/Throwable", "fillInStackTrace", "(I)Ljava/lang/Throwable;"⟩, 6) := ⟨⟨by decide +kernel, by decide +kernel⟩, List.mem_of_getElem? (i := 415) (by decide +kernel), List.mem_of_getElem? (i := 413) (by decide +kernel), List.mem_of_getElem? (i := 414) (by decide +kernel)⟩
theorem lw_p27 : lw_okq (⟨"java/util/ArrayList", "add", "(Ljava/lang/Object;[Ljava/lang/Object;I)V"⟩, 3) := ⟨⟨by decide +kernel, by decide +kernel⟩, List.mem_of_getElem? (i := 49) (by decide +kernel), List.mem_of_getElem? (i := 504) (by decide +kernel), List.mem_of_getElem? (i := 505) (by decide +kernel)⟩
theorem lw_p28 : lw_okq (⟨"java/util/ArrayList", "grow", "()[Ljava/lang/Object;"⟩, 3) := ⟨⟨by decide +kernel, by decide +kernel⟩, List.mem_of_getElem? (i := 49) (by decide +kernel), List.mem_of_getElem? (i := 508) (by decide +kernel), List.mem_of_getElem? (i := 509) (by decide +kernel)⟩
theorem lw_p29 : lw_okq (⟨"java/util/ArrayList", "grow", "(I)[Ljava/lang/Object;"⟩, 3) := ⟨⟨by decide +kernel, by decide +kernel⟩, List.mem_of_getElem? (i := 49) (by decide +kernel), List.mem_of_getElem? (i := 512) (by decide +kernel), List.mem_of_getElem? (i := 513) (by decide +kernel)⟩
theorem lw_p30 : lw_okq (⟨"StatementCycle", "accountAt", "(I)LStatementCycle$Account;"⟩, 4) := ⟨⟨by decide +kernel, by decide +kernel⟩, List.mem_of_getElem? (i := 41) (by decide +kernel), List.mem_of_getElem? (i := 606) (by decide +kernel), List.mem_of_getElem? (i := 607) (by decide +kernel)⟩
theorem lw_p31 : lw_okq (⟨"StatementCycle$Account", "tell", "(LStatementCycle$Event;)I"⟩, 9) := ⟨⟨by decide +kernel, by decide +kernel⟩, List.mem_of_getElem? (i := 216) (by decide +kernel), List.mem_of_getElem? (i := 695) (by decide +kernel), List.mem_of_getElem? (i := 696) (by decide +kernel)⟩
def lw_privs_2 : List (MethodName × Nat) := [(⟨"StatementCycle$Books", "chargeFee", "(J)V"⟩, 17), (⟨"StatementCycle$Books", "endDay", "(LStatementCycle$Account;I)V"⟩, 17), (⟨"StatementCycle$Books", "fallDue", "(I)V"⟩, 17), (⟨"StatementCycle$Books", "wasOneMissed", "(I)Z"⟩, 17), (⟨"StatementCycle$Account", "frozenOn", "(II)J"⟩, 9), (⟨"StatementCycle$Event", "wasFrozenOn", "(I)Z"⟩, 9), (⟨"StatementCycle$Account", "countPoints", "()J"⟩, 9), (⟨"StatementCycle$Books", "isBalanced", "(LStatementCycle$Account;)Z"⟩, 17), (⟨"StatementCycle$Books", "hasStatementsOf", "(LStatementCycle$Books;)Z"⟩, 17), (⟨"StatementCycle$Statement", "isLike", "(LStatementCycle$Statement;)Z"⟩, 5), (⟨"java/lang/Throwable", "fillInStackTrace", "(I)Ljava/lang/Throwable;"⟩, 6), (⟨"java/util/ArrayList", "add", "(Ljava/lang/Object;[Ljava/lang/Object;I)V"⟩, 3), (⟨"java/util/ArrayList", "grow", "()[Ljava/lang/Object;"⟩, 3), (⟨"java/util/ArrayList", "grow", "(I)[Ljava/lang/Object;"⟩, 3), (⟨"StatementCycle", "accountAt", "(I)LStatementCycle$Account;"⟩, 4), (⟨"StatementCycle$Account", "tell", "(LStatementCycle$Event;)I"⟩, 9)]
theorem lw_r2 : ∀ q ∈ lw_privs_2, lw_okq q := List.forall_mem_cons.mpr ⟨lw_p16, List.forall_mem_cons.mpr ⟨lw_p17, List.forall_mem_cons.mpr ⟨lw_p18, List.forall_mem_cons.mpr ⟨lw_p19, List.forall_mem_cons.mpr ⟨lw_p20, List.forall_mem_cons.mpr ⟨lw_p21, List.forall_mem_cons.mpr ⟨lw_p22, List.forall_mem_cons.mpr ⟨lw_p23, List.forall_mem_cons.mpr ⟨lw_p24, List.forall_mem_cons.mpr ⟨lw_p25, List.forall_mem_cons.mpr ⟨lw_p26, List.forall_mem_cons.mpr ⟨lw_p27, List.forall_mem_cons.mpr ⟨lw_p28, List.forall_mem_cons.mpr ⟨lw_p29, List.forall_mem_cons.mpr ⟨lw_p30, List.forall_mem_cons.mpr ⟨lw_p31, fun _ h => absurd h List.not_mem_nil⟩⟩⟩⟩⟩⟩⟩⟩⟩⟩⟩⟩⟩⟩⟩⟩
theorem lw_p32 : lw_okq (⟨"java/util/ArrayList", "rangeCheckForAdd", "(I)V"⟩, 3) := ⟨⟨by decide +kernel, by decide +kernel⟩, List.mem_of_getElem? (i := 49) (by decide +kernel), List.mem_of_getElem? (i := 703) (by decide +kernel), List.mem_of_getElem? (i := 704) (by decide +kernel)⟩
theorem lw_p33 : lw_okq (⟨"java/util/ArrayList", "outOfBoundsMsg", "(I)Ljava/lang/String;"⟩, 3) := ⟨⟨by decide +kernel, by decide +kernel⟩, List.mem_of_getElem? (i := 49) (by decide +kernel), List.mem_of_getElem? (i := 708) (by decide +kernel), List.mem_of_getElem? (i := 709) (by decide +kernel)⟩
theorem lw_p34 : lw_okq (⟨"StatementCycle$Account", "takeBack", "(LStatementCycle$Event;)V"⟩, 9) := ⟨⟨by decide +kernel, by decide +kernel⟩, List.mem_of_getElem? (i := 216) (by decide +kernel), List.mem_of_getElem? (i := 1019) (by decide +kernel), List.mem_of_getElem? (i := 1020) (by decide +kernel)⟩
theorem lw_p35 : lw_okq (⟨"StatementCycle$Account", "countFrozen", "()I"⟩, 9) := ⟨⟨by decide +kernel, by decide +kernel⟩, List.mem_of_getElem? (i := 216) (by decide +kernel), List.mem_of_getElem? (i := 1030) (by decide +kernel), List.mem_of_getElem? (i := 1031) (by decide +kernel)⟩
theorem lw_p36 : lw_okq (⟨"StatementCycle$Event", "isFrozen", "()Z"⟩, 9) := ⟨⟨by decide +kernel, by decide +kernel⟩, List.mem_of_getElem? (i := 335) (by decide +kernel), List.mem_of_getElem? (i := 1034) (by decide +kernel), List.mem_of_getElem? (i := 1035) (by decide +kernel)⟩
theorem lw_p37 : lw_okq (⟨"StatementCycle$Account", "hasPlan", "()Z"⟩, 9) := ⟨⟨by decide +kernel, by decide +kernel⟩, List.mem_of_getElem? (i := 216) (by decide +kernel), List.mem_of_getElem? (i := 1060) (by decide +kernel), List.mem_of_getElem? (i := 1061) (by decide +kernel)⟩
theorem lw_p38 : lw_okq (⟨"StatementCycle", "statementAt", "(LStatementCycle$Account;I)LStatementCycle$Statement;"⟩, 4) := ⟨⟨by decide +kernel, by decide +kernel⟩, List.mem_of_getElem? (i := 41) (by decide +kernel), List.mem_of_getElem? (i := 1107) (by decide +kernel), List.mem_of_getElem? (i := 1108) (by decide +kernel)⟩
theorem lw_p39 : lw_okq (⟨"StatementCycle", "toldOf", "(LStatementCycle$Account;I)J"⟩, 4) := ⟨⟨by decide +kernel, by decide +kernel⟩, List.mem_of_getElem? (i := 41) (by decide +kernel), List.mem_of_getElem? (i := 1133) (by decide +kernel), List.mem_of_getElem? (i := 1134) (by decide +kernel)⟩
theorem lw_p40 : lw_okq (⟨"StatementCycleModel", "no", "(ZI)Z"⟩, 4) := ⟨⟨by decide +kernel, by decide +kernel⟩, List.mem_of_getElem? (i := 1282) (by decide +kernel), List.mem_of_getElem? (i := 1315) (by decide +kernel), List.mem_of_getElem? (i := 1316) (by decide +kernel)⟩
theorem lw_p41 : lw_okq (⟨"StatementCycleModel", "isAccount", "(I)Z"⟩, 4) := ⟨⟨by decide +kernel, by decide +kernel⟩, List.mem_of_getElem? (i := 1282) (by decide +kernel), List.mem_of_getElem? (i := 1370) (by decide +kernel), List.mem_of_getElem? (i := 1371) (by decide +kernel)⟩
theorem lw_p42 : lw_okq (⟨"StatementCycleModel", "hasRoom", "(I)Z"⟩, 4) := ⟨⟨by decide +kernel, by decide +kernel⟩, List.mem_of_getElem? (i := 1282) (by decide +kernel), List.mem_of_getElem? (i := 1436) (by decide +kernel), List.mem_of_getElem? (i := 1437) (by decide +kernel)⟩
theorem lw_p43 : lw_okq (⟨"StatementCycleModel", "add", "(ILStatementCycleModel$Event;)I"⟩, 4) := ⟨⟨by decide +kernel, by decide +kernel⟩, List.mem_of_getElem? (i := 1282) (by decide +kernel), List.mem_of_getElem? (i := 1486) (by decide +kernel), List.mem_of_getElem? (i := 1487) (by decide +kernel)⟩
theorem lw_p44 : lw_okq (⟨"StatementCycleModel", "against", "(ICI)[Z"⟩, 4) := ⟨⟨by decide +kernel, by decide +kernel⟩, List.mem_of_getElem? (i := 1282) (by decide +kernel), List.mem_of_getElem? (i := 1504) (by decide +kernel), List.mem_of_getElem? (i := 1505) (by decide +kernel)⟩
theorem lw_p45 : lw_okq (⟨"StatementCycleModel", "walk", "(I)LStatementCycleModel$Walk;"⟩, 4) := ⟨⟨by decide +kernel, by decide +kernel⟩, List.mem_of_getElem? (i := 1282) (by decide +kernel), List.mem_of_getElem? (i := 1508) (by decide +kernel), List.mem_of_getElem? (i := 1509) (by decide +kernel)⟩
theorem lw_p46 : lw_okq (⟨"StatementCycleModel$Walk", "walk", "()V"⟩, 21) := ⟨⟨by decide +kernel, by decide +kernel⟩, List.mem_of_getElem? (i := 1512) (by decide +kernel), List.mem_of_getElem? (i := 1518) (by decide +kernel), List.mem_of_getElem? (i := 1519) (by decide +kernel)⟩
theorem lw_p47 : lw_okq (⟨"StatementCycleModel$Walk", "happen", "(LStatementCycleModel$Event;)V"⟩, 21) := ⟨⟨by decide +kernel, by decide +kernel⟩, List.mem_of_getElem? (i := 1512) (by decide +kernel), List.mem_of_getElem? (i := 1577) (by decide +kernel), List.mem_of_getElem? (i := 1578) (by decide +kernel)⟩
def lw_privs_3 : List (MethodName × Nat) := [(⟨"java/util/ArrayList", "rangeCheckForAdd", "(I)V"⟩, 3), (⟨"java/util/ArrayList", "outOfBoundsMsg", "(I)Ljava/lang/String;"⟩, 3), (⟨"StatementCycle$Account", "takeBack", "(LStatementCycle$Event;)V"⟩, 9), (⟨"StatementCycle$Account", "countFrozen", "()I"⟩, 9), (⟨"StatementCycle$Event", "isFrozen", "()Z"⟩, 9), (⟨"StatementCycle$Account", "hasPlan", "()Z"⟩, 9), (⟨"StatementCycle", "statementAt", "(LStatementCycle$Account;I)LStatementCycle$Statement;"⟩, 4), (⟨"StatementCycle", "toldOf", "(LStatementCycle$Account;I)J"⟩, 4), (⟨"StatementCycleModel", "no", "(ZI)Z"⟩, 4), (⟨"StatementCycleModel", "isAccount", "(I)Z"⟩, 4), (⟨"StatementCycleModel", "hasRoom", "(I)Z"⟩, 4), (⟨"StatementCycleModel", "add", "(ILStatementCycleModel$Event;)I"⟩, 4), (⟨"StatementCycleModel", "against", "(ICI)[Z"⟩, 4), (⟨"StatementCycleModel", "walk", "(I)LStatementCycleModel$Walk;"⟩, 4), (⟨"StatementCycleModel$Walk", "walk", "()V"⟩, 21), (⟨"StatementCycleModel$Walk", "happen", "(LStatementCycleModel$Event;)V"⟩, 21)]
theorem lw_r3 : ∀ q ∈ lw_privs_3, lw_okq q := List.forall_mem_cons.mpr ⟨lw_p32, List.forall_mem_cons.mpr ⟨lw_p33, List.forall_mem_cons.mpr ⟨lw_p34, List.forall_mem_cons.mpr ⟨lw_p35, List.forall_mem_cons.mpr ⟨lw_p36, List.forall_mem_cons.mpr ⟨lw_p37, List.forall_mem_cons.mpr ⟨lw_p38, List.forall_mem_cons.mpr ⟨lw_p39, List.forall_mem_cons.mpr ⟨lw_p40, List.forall_mem_cons.mpr ⟨lw_p41, List.forall_mem_cons.mpr ⟨lw_p42, List.forall_mem_cons.mpr ⟨lw_p43, List.forall_mem_cons.mpr ⟨lw_p44, List.forall_mem_cons.mpr ⟨lw_p45, List.forall_mem_cons.mpr ⟨lw_p46, List.forall_mem_cons.mpr ⟨lw_p47, fun _ h => absurd h List.not_mem_nil⟩⟩⟩⟩⟩⟩⟩⟩⟩⟩⟩⟩⟩⟩⟩⟩
theorem lw_p48 : lw_okq (⟨"StatementCycleModel$Walk", "owes", "(IJ)V"⟩, 21) := ⟨⟨by decide +kernel, by decide +kernel⟩, List.mem_of_getElem? (i := 1512) (by decide +kernel), List.mem_of_getElem? (i := 1584) (by decide +kernel), List.mem_of_getElem? (i := 1585) (by decide +kernel)⟩
theorem lw_p49 : lw_okq (⟨"StatementCycleModel$Walk", "fee", "(I)V"⟩, 21) := ⟨⟨by decide +kernel, by decide +kernel⟩, List.mem_of_getElem? (i := 1512) (by decide +kernel), List.mem_of_getElem? (i := 1588) (by decide +kernel), List.mem_of_getElem? (i := 1589) (by decide +kernel)⟩
theorem lw_p50 : lw_okq (⟨"StatementCycleModel$Walk", "lay", "(JZ)J"⟩, 21) := ⟨⟨by decide +kernel, by decide +kernel⟩, List.mem_of_getElem? (i := 1512) (by decide +kernel), List.mem_of_getElem? (i := 1592) (by decide +kernel), List.mem_of_getElem? (i := 1593) (by decide +kernel)⟩
theorem lw_p51 : lw_okq (⟨"StatementCycleModel$Walk", "rate", "(I)J"⟩, 21) := ⟨⟨by decide +kernel, by decide +kernel⟩, List.mem_of_getElem? (i := 1512) (by decide +kernel), List.mem_of_getElem? (i := 1596) (by decide +kernel), List.mem_of_getElem? (i := 1597) (by decide +kernel)⟩
theorem lw_p52 : lw_okq (⟨"StatementCycleModel$Walk", "close", "(I)V"⟩, 21) := ⟨⟨by decide +kernel, by decide +kernel⟩, List.mem_of_getElem? (i := 1512) (by decide +kernel), List.mem_of_getElem? (i := 1605) (by decide +kernel), List.mem_of_getElem? (i := 1606) (by decide +kernel)⟩
theorem lw_p53 : lw_okq (⟨"StatementCycleModel$Walk", "isFull", "(I)Z"⟩, 21) := ⟨⟨by decide +kernel, by decide +kernel⟩, List.mem_of_getElem? (i := 1512) (by decide +kernel), List.mem_of_getElem? (i := 1609) (by decide +kernel), List.mem_of_getElem? (i := 1610) (by decide +kernel)⟩
theorem lw_p54 : lw_okq (⟨"StatementCycleModel$Walk", "end", "()V"⟩, 21) := ⟨⟨by decide +kernel, by decide +kernel⟩, List.mem_of_getElem? (i := 1512) (by decide +kernel), List.mem_of_getElem? (i := 1626) (by decide +kernel), List.mem_of_getElem? (i := 1627) (by decide +kernel)⟩
theorem lw_p55 : lw_okq (⟨"StatementCycleModel$Walk", "falls", "(I)V"⟩, 21) := ⟨⟨by decide +kernel, by decide +kernel⟩, List.mem_of_getElem? (i := 1512) (by decide +kernel), List.mem_of_getElem? (i := 1630) (by decide +kernel), List.mem_of_getElem? (i := 1631) (by decide +kernel)⟩
theorem lw_p56 : lw_okq (⟨"StatementCycleModel$Walk", "frozen", "(I)J"⟩, 21) := ⟨⟨by decide +kernel, by decide +kernel⟩, List.mem_of_getElem? (i := 1512) (by decide +kernel), List.mem_of_getElem? (i := 1635) (by decide +kernel), List.mem_of_getElem? (i := 1636) (by decide +kernel)⟩
theorem lw_p57 : lw_okq (⟨"StatementCycleModel", "count", "([Z)I"⟩, 4) := ⟨⟨by decide +kernel, by decide +kernel⟩, List.mem_of_getElem? (i := 1282) (by decide +kernel), List.mem_of_getElem? (i := 1718) (by decide +kernel), List.mem_of_getElem? (i := 1719) (by decide +kernel)⟩
theorem lw_p58 : lw_okq (⟨"StatementCycleModel", "isEvent", "(II)Z"⟩, 4) := ⟨⟨by decide +kernel, by decide +kernel⟩, List.mem_of_getElem? (i := 1282) (by decide +kernel), List.mem_of_getElem? (i := 1740) (by decide +kernel), List.mem_of_getElem? (i := 1741) (by decide +kernel)⟩
theorem lw_p59 : lw_okq (⟨"StatementCycleModel", "event", "(II)LStatementCycleModel$Event;"⟩, 4) := ⟨⟨by decide +kernel, by decide +kernel⟩, List.mem_of_getElem? (i := 1282) (by decide +kernel), List.mem_of_getElem? (i := 1744) (by decide +kernel), List.mem_of_getElem? (i := 1745) (by decide +kernel)⟩
theorem lw_p60 : lw_okq (⟨"StatementCycleModel", "pointsOf", "(I)J"⟩, 4) := ⟨⟨by decide +kernel, by decide +kernel⟩, List.mem_of_getElem? (i := 1282) (by decide +kernel), List.mem_of_getElem? (i := 1778) (by decide +kernel), List.mem_of_getElem? (i := 1779) (by decide +kernel)⟩
theorem lw_p61 : lw_okq (⟨"StatementCycleModel", "isClosed", "(I)Z"⟩, 4) := ⟨⟨by decide +kernel, by decide +kernel⟩, List.mem_of_getElem? (i := 1282) (by decide +kernel), List.mem_of_getElem? (i := 1822) (by decide +kernel), List.mem_of_getElem? (i := 1823) (by decide +kernel)⟩
theorem lw_p62 : lw_okq (⟨"StatementCycleModel", "wasTold", "(II)Z"⟩, 4) := ⟨⟨by decide +kernel, by decide +kernel⟩, List.mem_of_getElem? (i := 1282) (by decide +kernel), List.mem_of_getElem? (i := 1830) (by decide +kernel), List.mem_of_getElem? (i := 1831) (by decide +kernel)⟩
def lw_privs_4 : List (MethodName × Nat) := [(⟨"StatementCycleModel$Walk", "owes", "(IJ)V"⟩, 21), (⟨"StatementCycleModel$Walk", "fee", "(I)V"⟩, 21), (⟨"StatementCycleModel$Walk", "lay", "(JZ)J"⟩, 21), (⟨"StatementCycleModel$Walk", "rate", "(I)J"⟩, 21), (⟨"StatementCycleModel$Walk", "close", "(I)V"⟩, 21), (⟨"StatementCycleModel$Walk", "isFull", "(I)Z"⟩, 21), (⟨"StatementCycleModel$Walk", "end", "()V"⟩, 21), (⟨"StatementCycleModel$Walk", "falls", "(I)V"⟩, 21), (⟨"StatementCycleModel$Walk", "frozen", "(I)J"⟩, 21), (⟨"StatementCycleModel", "count", "([Z)I"⟩, 4), (⟨"StatementCycleModel", "isEvent", "(II)Z"⟩, 4), (⟨"StatementCycleModel", "event", "(II)LStatementCycleModel$Event;"⟩, 4), (⟨"StatementCycleModel", "pointsOf", "(I)J"⟩, 4), (⟨"StatementCycleModel", "isClosed", "(I)Z"⟩, 4), (⟨"StatementCycleModel", "wasTold", "(II)Z"⟩, 4)]
theorem lw_r4 : ∀ q ∈ lw_privs_4, lw_okq q := List.forall_mem_cons.mpr ⟨lw_p48, List.forall_mem_cons.mpr ⟨lw_p49, List.forall_mem_cons.mpr ⟨lw_p50, List.forall_mem_cons.mpr ⟨lw_p51, List.forall_mem_cons.mpr ⟨lw_p52, List.forall_mem_cons.mpr ⟨lw_p53, List.forall_mem_cons.mpr ⟨lw_p54, List.forall_mem_cons.mpr ⟨lw_p55, List.forall_mem_cons.mpr ⟨lw_p56, List.forall_mem_cons.mpr ⟨lw_p57, List.forall_mem_cons.mpr ⟨lw_p58, List.forall_mem_cons.mpr ⟨lw_p59, List.forall_mem_cons.mpr ⟨lw_p60, List.forall_mem_cons.mpr ⟨lw_p61, List.forall_mem_cons.mpr ⟨lw_p62, fun _ h => absurd h List.not_mem_nil⟩⟩⟩⟩⟩⟩⟩⟩⟩⟩⟩⟩⟩⟩⟩
def lw_privs : List (MethodName × Nat) := lw_privs_1 ++ (lw_privs_2 ++ (lw_privs_3 ++ (lw_privs_4)))
def lw_tbl : List Cond := k2_sels lw_privs ++ tables_1
theorem lw_privs_ok : ∀ q ∈ lw_privs, lw_okq q := by
  show ∀ q ∈ lw_privs_1 ++ (lw_privs_2 ++ (lw_privs_3 ++ (lw_privs_4))), lw_okq q
  exact List.forall_mem_append.mpr ⟨lw_r1, List.forall_mem_append.mpr ⟨lw_r2, List.forall_mem_append.mpr ⟨lw_r3, lw_r4⟩⟩⟩
/-- the streams that the claim lets the run draw from -/
abbrev lw_cs : List Choice := [Jvm.Choice.named "NaN.bits"]
theorem lw_bits : nanBits ∈ lw_cs := by first | decide | exact List.mem_cons_self | simp [lw_cs, nanBits]
end
section
/-! ===== BEGIN words of one list among another's, by their places ===== -/
theorem goodIn_r {big : List Cond} (ws : List Cond) (ps : List Nat) (hp : ws = ps.filterMap (fun i => big[i]?)) (h : ws.all goodWord = true) : GoodIn big ws := by
  intro w hw
  have h1 := List.all_eq_true.mp h w hw
  rw [hp] at hw
  obtain ⟨i, -, hi⟩ := List.mem_filterMap.mp hw
  have hm : w ∈ big := by first | exact List.mem_of_getElem? hi | exact List.getElem?_mem hi
  exact ⟨hm, good_of_word h1⟩
theorem goodIn_app {big a b : List Cond} (ha : GoodIn big a) (hb : GoodIn big b) : GoodIn big (a ++ b) := fun w h => (List.mem_append.mp h).elim (ha w) (hb w)
theorem goodIn_ca {big a b : List Cond} {c : Cond} (ha : GoodIn big (c :: a)) (hb : GoodIn big b) : GoodIn big (c :: (a ++ b)) := fun w h => (List.mem_cons.mp h).elim (fun e => ha w (List.mem_cons.mpr (Or.inl e))) (fun h => (List.mem_append.mp h).elim (fun h => ha w (List.mem_cons.mpr (Or.inr h))) (hb w))
theorem goodIn_sub {big ws : List Cond} (hm : ∀ w ∈ ws, w ∈ big) (h : ws.all goodWord = true) : GoodIn big ws := fun w hw => ⟨hm w hw, good_of_word (List.all_eq_true.mp h w hw)⟩
/-! ===== END ===== -/
/-! ===== BEGIN exceptions that leave a method, and their catching by the caller (launches without stack traces) ===== -/
section VXA
/-! The laws vx_back, vx_callV, vx_callS, vx_callSW, vx_throw0, vx_throwS follow proofs of the library, with one case more: JvmDerived/Free/Laws.lean (Back.of_free), Shelf42/LK1.lean (callV, callS), Shelf/KitTraced.lean (throwNew0V, throwNewS). -/
/-- where a method has thrown q: the class by its name, the cell, what was written, the world -/
def vx_T (XC : String → State → State → Prop) (st : State) (q : Addr) (t : State) (mc ms : Nat) (free : Addr → Prop) : Prop :=
  ∃ (E : String) (ce : Cell) (L : List Loc), XC E st t ∧ t.heap[q]? = some ce ∧ ce.vm = .none ∧ st.vm.findClass E = some ce.cls ∧ st.WarmedH t.vm ∧ st.sameButNew ({ t with vm := st.vm } : State) L mc ms ∧ ∀ z ∈ L, free z.base
def vx_Q (Qc : Array Value → State → Outcome → State → Prop) (XC : String → State → State → Prop) (mc ms : Nat) (free : Addr → Prop) : Array Value → State → Outcome → State → Prop := fun a st o t =>
  (Qc a st o t ∧ ∃ L, FrameEnd st o t L mc ms ∧ ∀ q ∈ L, free q.base) ∨ ∃ q, o = .threw q ∧ vx_T XC st q t mc ms free
/-- a callee that returns or throws -/
def vx_Met (l : Launch) (y : MethodName) (ws : List Cond) (rm : Room) (Pc : Array Value → State → Prop) (Qc : Array Value → State → Outcome → State → Prop) (XC : String → State → State → Prop) (mc ms : Nat) (free : Addr → Prop) : Prop :=
  MetFree l y (headSpec ws rm) Pc (fun _ _ _ _ _ => True) (vx_Q Qc XC mc ms free)
def vx_Post (XC : String → State → State → Prop) (mc ms : Nat) (free : Addr → Prop) : Pt → Array Value → Addr → Pt → Prop := fun A a q B =>
  ∃ (g : JFrame) (mk : MethodId) (t : State) (L : List Loc) (E : String) (ce : Cell), B.U.heap = t.heap ∧ B.U.vm = t.vm ∧ XC E (A.U.calling g mk a) t ∧ t.heap[q]? = some ce ∧ ce.vm = .none ∧ A.U.vm.findClass E = some ce.cls ∧ B.locs = A.locs ++ L ∧ (∀ z ∈ L, free z.base) ∧ B.cells = A.cells + mc ∧ B.slots = A.slots + ms
def vx_Back (l : Launch) (R : Room) (p : Program) (e : Env) (below : List Frame) (s : State) (sargs : Array Value) (y : MethodName) (len W9 : Nat)
    (Pre : Pt → Array Value → Prop) (Post : Pt → Array Value → Option Value → Pt → Prop) (PostX : Pt → Array Value → Addr → Pt → Prop) : Prop :=
  ∀ (m : MethodId) (meth : Method) (c : Code) (A : Pt) (g : JFrame) (ig : Instr) (mk : MethodId) (a : Array Value),
    Stand p l e R s m sargs below meth c A.U A.locs A.cells A.slots → g.method = m → g.locals.size = c.maxLocals → decode c.code g.pc = .ok (ig, len) →
    2 * g.monitorRoom + (g.stack.map fun v => v.category).sum ≤ W9 → A.U.methodNamed? y = some mk → Pre A a →
    (∃ (v : Option Value) (B : Pt), Stand p l e R s m sargs below meth c B.U B.locs B.cells B.slots ∧ Post A a v B ∧
      Steps p.tables e below (doInvoke e (A.U.setTop g) [] mk a).1 (B.U.setTop { g with pc := g.pc + len, stack := v.toList ++ g.stack })) ∨
    (∃ (q : Addr) (B : Pt), Stand p l e R s m sargs below meth c B.U B.locs B.cells B.slots ∧ PostX A a q B ∧
      Steps p.tables e below (doInvoke e (A.U.setTop g) [] mk a).1 ((B.U.setTop g).pushFrame (.throwing q)))
section Payer
variable {l : Launch} {R : Room} {p : Program} {e : Env} {below : List Frame} {s : State} {sargs : Array Value} {y : MethodName} {len W9 : Nat}
theorem vx_back {ws : List Cond} {rm : Room} {Pc : Array Value → State → Prop} {Qc : Array Value → State → Outcome → State → Prop} {XC : String → State → State → Prop} {mc ms : Nat} {free : Addr → Prop} {bytes : ByteArray} {maxL : Nat} {ret : Option FieldType}
    (hM : vx_Met l y ws rm Pc Qc XC mc ms free) (hblind : FrameBlind Pc) (hrc : rm.cells = mc) (hrs : rm.slots = ms)
    (hframes : rm.frames + 1 ≤ R.frames) (hlocals : W9 + (maxL + 11) + rm.locals ≤ R.locals)
    (hws : ∀ w ∈ ws, ∀ a' U, s.WarmedH U.vm → w.before a' U = true) (hcode : Cond.code y bytes maxL ret ∈ ws) (hinit : ∀ a' U, s.WarmedH U.vm → (Cond.initialized y.cls).before a' U = true) :
    vx_Back l R p e below s sargs y len W9 (PreOf R mc ms Pc) (PostOf Qc mc ms free) (vx_Post XC mc ms free) := by
  intro m meth c A g ig mk a X hg hsize hdg hW hn hp
  have h1 : (headSpec ws rm).pre.before a A.U = true := atoms_intro fun w hw => hws w hw _ _ X.warmed
  have h2 : (Cond.code y bytes maxL ret).before a A.U = true := hws _ hcode _ _ X.warmed
  have h3 : (Cond.initialized y.cls).before a A.U = true := hinit _ _ X.warmed
  have h4 : A.cells + (headSpec ws rm).room.cells ≤ R.cells := by rw [show (headSpec ws rm).room.cells = mc from hrc]; exact hp.1
  have h5 : A.slots + (headSpec ws rm).room.slots ≤ R.slots := by rw [show (headSpec ws rm).room.slots = ms from hrs]; exact hp.2.1
  have hPc : Pc a (A.U.calling g mk a) := hblind _ _ _ _ hp.2.2
  obtain ⟨U, Ls, c0, s0⟩ := A
  dsimp only [Pt.U, Pt.locs, Pt.cells, Pt.slots] at h1 h2 h3 h4 h5 X hn hPc ⊢
  obtain ⟨methY, cY, hmY, hcY, -, hlY, -, -, -, -⟩ := Cond.code_spec hn h2
  obtain ⟨kY, hkY, -⟩ := className_of_methodNamed hn
  have hinitY : kY.init = .initialized := Cond.initialized_spec (findClass_of_methodNamed hn) hkY h3
  have h : At U g.method c below := by rw [hg]; exact X.here
  have hlocals9 : W9 + (maxL + 11) + (headSpec ws rm).room.locals ≤ R.locals := hlocals
  have happ : (headSpec ws rm).appliesLoose y e.platform (U.calling g mk a) = true :=
    Spec.appliesLoose_calling (g := g) h hdg hn hkY hinitY
      (X.room_calling (g := g) (R' := (headSpec ws rm).room) hsize hmY hcY hframes (by rw [hlY]; omega) h4 h5) h1
  obtain ⟨mid, hmid⟩ := h.above
  have hfr : (U.setTop g).frames = (.java g :: mid) ++ below := by rw [State.frames_setTop' g h.top, hmid]; rfl
  obtain ⟨o, s₂, hsteps, -, hend, hq⟩ := Steps.callFree hM p X.admits X.cas X.clock (acts := []) hfr happ hPc trivial
  have hq' : vx_Q Qc XC mc ms free a (U.calling g mk a) o s₂ := hq
  rw [State.frames_setTop' g h.top] at hend
  obtain ⟨g₀, hg0⟩ := Option.isSome_iff_exists.mp h.top
  obtain ⟨r, hr⟩ := State.topJava?_eq_some.mp hg0
  have hr' : (({ U with heap := s₂.heap, slotsUsed := s₂.slotsUsed } : State).setVm s₂.vm).frames = .java g₀ :: r := hr
  rcases hq' with ⟨hqc, L, hfe, hL⟩ | ⟨q, rfl, E, ce, L, hx, hce, hcv, hcl, hW₂, hsm, hL⟩
  · obtain ⟨⟨v, rfl⟩, hW₂, e2, q2, q3, q4, q5, q6⟩ := id hfe
    have e3 : s₂ = ({ (U.calling g mk a).setFrames s₂.frames with heap := s₂.heap, slotsUsed := s₂.slotsUsed } : State).setVm s₂.vm := by
      have : s₂ = ({ s₂ with vm := (U.calling g mk a).vm } : State).setVm s₂.vm := rfl
      rw [e2] at this
      exact this
    obtain ⟨c₂, i₂, len₂, hc₂, hd₂, hf₂⟩ := hend
    have hW' : U.WarmedH s₂.vm := hW₂
    have hcc : c₂ = c := by
      have h1 : s₂.code? g.method = U.code? g.method := by
        rw [State.code?_eq, State.code?_eq, hW'.alike.method?]
      exact Option.some.inj (hc₂.symm.trans (h1.trans h.code))
    subst hcc
    have hlen : len₂ = len := by rw [hdg] at hd₂; cases hd₂; rfl
    subst hlen
    have hs₂ : s₂ = (({ U with heap := s₂.heap, slotsUsed := s₂.slotsUsed } : State).setVm s₂.vm).setTop { g with pc := g.pc + len₂, stack := v.toList ++ g.stack } := by
      refine e3.trans ?_
      rw [hf₂, State.calling_eq h.top, State.setFrames_setFrames, State.setTop_of_frames _ hr', hr]
      rfl
    have hsame : U.sameButNew ({ U with heap := s₂.heap, slotsUsed := s₂.slotsUsed } : State) L mc ms := by
      refine ⟨?_, q2, q3, q4, q5, q6⟩
      obtain ⟨t, ht, -⟩ := State.frames_cons hr
      show ({ U with heap := s₂.heap, slotsUsed := s₂.slotsUsed } : State) = { U.setFrames U.frames with heap := s₂.heap, slotsUsed := s₂.slotsUsed }
      rw [State.setFrames_self ht]
    subst hg
    refine Or.inl ⟨v, ⟨(({ U with heap := s₂.heap, slotsUsed := s₂.slotsUsed } : State).setVm s₂.vm), Ls ++ L, c0 + mc, s0 + ms⟩,
      ⟨X.admits, X.cas, X.clock, X.frames, X.room, X.hears, X.method, X.code, (X.here.setHeapUsed s₂.heap s₂.slotsUsed).setVm hW'.alike, X.tail, State.WarmedH.trans X.warmed hW', X.limits, X.bytes, X.same.trans (hsame.setVm s.vm)⟩,
      ⟨g, mk, s₂, L, rfl, rfl, hqc, rfl, hL, rfl, rfl⟩, ?_⟩
    show Steps p.tables e below _ ((({ U with heap := s₂.heap, slotsUsed := s₂.slotsUsed } : State).setVm s₂.vm).setTop { g with pc := g.pc + len₂, stack := v.toList ++ g.stack })
    rw [← hs₂]
    exact hsteps
  · obtain ⟨e2, q2, q3, q4, q5, q6⟩ := id hsm
    have e3 : s₂ = ({ (U.calling g mk a).setFrames s₂.frames with heap := s₂.heap, slotsUsed := s₂.slotsUsed } : State).setVm s₂.vm := by
      have : s₂ = ({ s₂ with vm := (U.calling g mk a).vm } : State).setVm s₂.vm := rfl
      rw [e2] at this
      exact this
    have hf₂ : s₂.frames = .throwing q :: .java g :: U.frames.tail := hend
    have hW' : U.WarmedH s₂.vm := hW₂
    have hs₂ : s₂ = ((({ U with heap := s₂.heap, slotsUsed := s₂.slotsUsed } : State).setVm s₂.vm).setTop g).pushFrame (.throwing q) := by
      refine e3.trans ?_
      rw [hf₂, State.calling_eq h.top, State.setFrames_setFrames, State.pushFrame, State.frames_setTop _ hr', State.setTop_of_frames _ hr', State.setFrames_setFrames, hr]
      rfl
    have hsame : U.sameButNew ({ U with heap := s₂.heap, slotsUsed := s₂.slotsUsed } : State) L mc ms := by
      refine ⟨?_, q2, q3, q4, q5, q6⟩
      obtain ⟨t, ht, -⟩ := State.frames_cons hr
      show ({ U with heap := s₂.heap, slotsUsed := s₂.slotsUsed } : State) = { U.setFrames U.frames with heap := s₂.heap, slotsUsed := s₂.slotsUsed }
      rw [State.setFrames_self ht]
    subst hg
    refine Or.inr ⟨q, ⟨(({ U with heap := s₂.heap, slotsUsed := s₂.slotsUsed } : State).setVm s₂.vm), Ls ++ L, c0 + mc, s0 + ms⟩,
      ⟨X.admits, X.cas, X.clock, X.frames, X.room, X.hears, X.method, X.code, (X.here.setHeapUsed s₂.heap s₂.slotsUsed).setVm hW'.alike, X.tail, State.WarmedH.trans X.warmed hW', X.limits, X.bytes, X.same.trans (hsame.setVm s.vm)⟩,
      ⟨g, mk, s₂, L, E, ce, rfl, rfl, hx, hce, hcv, hcl, rfl, hL, rfl, rfl⟩, ?_⟩
    show Steps p.tables e below _ (((({ U with heap := s₂.heap, slotsUsed := s₂.slotsUsed } : State).setVm s₂.vm).setTop g).pushFrame (.throwing q))
    rw [← hs₂]
    exact hsteps
end Payer
section Calls
variable {p : Program} {l : Launch} {e : Env} {R : Room} {s : State} {m : MethodId} {args : Array Value} {below : List Frame} {meth : Method} {c : Code} {T : State} {locs : List Loc} {cells slots : Nat}
theorem vx_callV (X : Stand p l e R s m args below meth c T locs cells slots) (hexec : p.tables.exec = Jvm.exec) {own C : String} {index : Nat} {y : MethodName} {bytes : ByteArray} {maxL : Nat} {ret : Option FieldType}
    (hown : s.vm.findClass own = some m.cls) (hlink : (Cond.methodLink own index y).before args s = true) (hinst : (Cond.instanceMethod y).before args s = true) (hsel : (Cond.selects C y y).before args s = true)
    (hcode : (Cond.code y bytes maxL ret).before args s = true) (hy : y.cls ≠ "java/lang/invoke/MethodHandle" ∧ y.cls ≠ "java/lang/invoke/VarHandle")
    {W9 : Nat} {Pre : Pt → Array Value → Prop} {Post : Pt → Array Value → Option Value → Pt → Prop} {PostX : Pt → Array Value → Addr → Pt → Prop} (hK : vx_Back l R p e below s args y 3 W9 Pre Post PostX)
    {b : Addr} {cellB : Cell} (hcell : T.heap[b]? = some cellB) (hobj : cellB.vm.isStatics = false) (hcls : s.vm.findClass C = some cellB.cls)
    {g : JFrame} (hg : g.method = m) (hsize : g.locals.size = c.maxLocals) {argsL rest : List Value} (hlen : ∀ sig, parseMethodDescriptor y.desc = some sig → argsL.length = sig.parameters.length)
    (hstack : g.stack = argsL.reverse ++ .ref b :: rest) (hW : 2 * g.monitorRoom + (rest.map fun v => v.category).sum ≤ W9) (hdg : decode c.code g.pc = .ok (.invokevirtual index, 3))
    (hpre : ∀ vm₁, s.WarmedH vm₁ → Pre ⟨T.setVm vm₁, locs, cells, slots⟩ (Value.ref b :: argsL).toArray) :
    (∃ (v : Option Value) (vm₁ : Vm) (B : Pt), s.WarmedH vm₁ ∧ Stand p l e R s m args below meth c B.U B.locs B.cells B.slots ∧ Post ⟨T.setVm vm₁, locs, cells, slots⟩ (Value.ref b :: argsL).toArray v B ∧
      ∀ target, Steps p.tables e below (B.U.setTop { g with pc := g.pc + 3, stack := v.toList ++ rest }) target → Steps p.tables e below (T.setTop g) target) ∨
    (∃ (q : Addr) (vm₁ : Vm) (B : Pt), s.WarmedH vm₁ ∧ Stand p l e R s m args below meth c B.U B.locs B.cells B.slots ∧ PostX ⟨T.setVm vm₁, locs, cells, slots⟩ (Value.ref b :: argsL).toArray q B ∧
      Steps p.tables e below (T.setTop g) ((B.U.setTop { g with stack := rest }).pushFrame (.throwing q))) := by
  obtain ⟨mk, methM, hnamed, hmethM, hstM, habM⟩ := Cond.instanceMethod_spec hinst
  obtain ⟨methM', cM, hmethM', -, -, -, -, -, -, hsigM⟩ := Cond.code_spec hnamed hcode
  cases hmethM.symm.trans hmethM'
  obtain ⟨c2, r2, m2, q1, q2, q3, q4, kP, hkP, hkPi⟩ := Cond.selects_spec hsel
  cases hcls.symm.trans q1
  cases (State.methodFound?_of_named hnamed hy).symm.trans q2
  cases hnamed.symm.trans q3
  have hselP : selectMethod e.platform s.vm cellB.cls mk = .method mk := by rw [Launch.admits_selectMethod X.admits]; exact q4
  obtain ⟨vm₁, X₁, hstep₁⟩ := X.invokevirtual hexec hown hlink hnamed hmethM hstM hkP hkPi hy (a := b) (cell := cellB) hcell
    (fun z h => by rw [h] at hobj; cases hobj) hselP hmethM habM hkP hkPi (g := g) hg (argsL := argsL) (rest := rest) (hlen _ hsigM) hstack hdg
  rcases hK m meth c ⟨T.setVm vm₁, locs, cells, slots⟩ { g with stack := rest } (.invokevirtual index) mk (Value.ref b :: argsL).toArray X₁ hg hsize hdg hW (X₁.named hnamed) (hpre vm₁ X₁.warmed) with ⟨v, B, X', hpost, hsteps⟩ | ⟨q, B, X', hpost, hsteps⟩
  · exact Or.inl ⟨v, vm₁, B, X₁.warmed, X', hpost, fun target h => hstep₁ _ fun acts => by rw [doInvoke_state]; exact hsteps.trans h⟩
  · exact Or.inr ⟨q, vm₁, B, X₁.warmed, X', hpost, hstep₁ _ fun acts => by rw [doInvoke_state]; exact hsteps⟩
theorem vx_callS (X : Stand p l e R s m args below meth c T locs cells slots) (hexec : p.tables.exec = Jvm.exec) {own : String} {index : Nat} {y : MethodName} {bytes : ByteArray} {maxL : Nat} {ret : Option FieldType}
    (hown : s.vm.findClass own = some m.cls) (hlink : (Cond.methodLink own index y).before args s = true) (hstat : (Cond.static y).before args s = true) (hinit : (Cond.initialized y.cls).before args s = true)
    (hcode : (Cond.code y bytes maxL ret).before args s = true) (hy : y.cls ≠ "java/lang/invoke/MethodHandle" ∧ y.cls ≠ "java/lang/invoke/VarHandle")
    {W9 : Nat} {Pre : Pt → Array Value → Prop} {Post : Pt → Array Value → Option Value → Pt → Prop} {PostX : Pt → Array Value → Addr → Pt → Prop} (hK : vx_Back l R p e below s args y 3 W9 Pre Post PostX)
    {g : JFrame} (hg : g.method = m) (hsize : g.locals.size = c.maxLocals) {argsL rest : List Value} (hlen : ∀ sig, parseMethodDescriptor y.desc = some sig → argsL.length = sig.parameters.length)
    (hstack : g.stack = argsL.reverse ++ rest) (hW : 2 * g.monitorRoom + (rest.map fun v => v.category).sum ≤ W9) (hdg : decode c.code g.pc = .ok (.invokestatic index, 3))
    (hpre : ∀ vm₁, s.WarmedH vm₁ → Pre ⟨T.setVm vm₁, locs, cells, slots⟩ argsL.toArray) :
    (∃ (v : Option Value) (vm₁ : Vm) (B : Pt), s.WarmedH vm₁ ∧ Stand p l e R s m args below meth c B.U B.locs B.cells B.slots ∧ Post ⟨T.setVm vm₁, locs, cells, slots⟩ argsL.toArray v B ∧
      ∀ target, Steps p.tables e below (B.U.setTop { g with pc := g.pc + 3, stack := v.toList ++ rest }) target → Steps p.tables e below (T.setTop g) target) ∨
    (∃ (q : Addr) (vm₁ : Vm) (B : Pt), s.WarmedH vm₁ ∧ Stand p l e R s m args below meth c B.U B.locs B.cells B.slots ∧ PostX ⟨T.setVm vm₁, locs, cells, slots⟩ argsL.toArray q B ∧
      Steps p.tables e below (T.setTop g) ((B.U.setTop { g with stack := rest }).pushFrame (.throwing q))) := by
  obtain ⟨mk, hnamed⟩ := Cond.code_named hcode
  obtain ⟨methM, cM, hmethM, -, -, -, -, -, -, hsigM⟩ := Cond.code_spec hnamed hcode
  have hstatic : methM.isStatic = true := Cond.static_spec hnamed hmethM hstat
  obtain ⟨kP, hkP, -⟩ := className_of_methodNamed hnamed
  have hinitP : kP.init = .initialized := Cond.initialized_spec (findClass_of_methodNamed hnamed) hkP hinit
  obtain ⟨vm₁, X₁, hstep₁⟩ := X.invokestatic hexec hown hlink hnamed hmethM hstatic hkP hinitP hy (g := g) hg (argsL := argsL) (rest := rest) (hlen _ hsigM) hstack hdg
  rcases hK m meth c ⟨T.setVm vm₁, locs, cells, slots⟩ { g with stack := rest } (.invokestatic index) mk argsL.toArray X₁ hg hsize hdg hW (X₁.named hnamed) (hpre vm₁ X₁.warmed) with ⟨v, B, X', hpost, hsteps⟩ | ⟨q, B, X', hpost, hsteps⟩
  · exact Or.inl ⟨v, vm₁, B, X₁.warmed, X', hpost, fun target h => hstep₁ _ fun acts => by rw [doInvoke_state]; exact hsteps.trans h⟩
  · exact Or.inr ⟨q, vm₁, B, X₁.warmed, X', hpost, hstep₁ _ fun acts => by rw [doInvoke_state]; exact hsteps⟩
end Calls
theorem vx_cls {s : State} {T : State} {vm₁ : Vm} {E : String} {k : ClassId} (hW : s.WarmedH vm₁) (h : (T.setVm vm₁).vm.findClass E = some k) : s.vm.findClass E = some k := by
  have h1 : vm₁.findClass E = some k := h
  rw [hW.alike.findClass] at h1
  exact h1
/-- the method's frame g, with q thrown over it -/
def vx_W (p : Program) (l : Launch) (e : Env) (R : Room) (s : State) (m : MethodId) (args : Array Value) (below : List Frame) (meth : Method) (c : Code) (H : Heap) (locs : List Loc) (cells slots : Nat) (Q : State → Prop) (g : JFrame) (q : Addr) : Prop :=
  ∀ T : State, T.heap = H → Stand p l e R s m args below meth c T locs cells slots → ∃ t, Steps p.tables e below ((T.setTop g).pushFrame (.throwing q)) t ∧ Q t
def vx_Run (p : Program) (l : Launch) (e : Env) (R : Room) (s : State) (m : MethodId) (args : Array Value) (below : List Frame) (meth : Method) (c : Code) (H : Heap) (locs : List Loc) (cells slots mc ms : Nat) (g : JFrame) (rest : List Value) (Qa : State → Outcome → State → Prop) (XC : String → State → State → Prop) (free : Addr → Prop) : Prop :=
  ∀ T : State, T.heap = H → Stand p l e R s m args below meth c T locs cells slots →
    (∃ (v : Option Value) (st₀ t T' : State) (L : List Loc), st₀.heap = H ∧ Stand p l e R s m args below meth c T' (locs ++ L) (cells + mc) (slots + ms) ∧ (∀ q ∈ L, free q.base) ∧ T'.heap = t.heap ∧ T'.vm = t.vm ∧ Qa st₀ (.returned v) t ∧
      Goes p e below T g T' { g with pc := g.pc + 3, stack := v.toList ++ rest }) ∨
    (∃ (q : Addr) (st₀ t T' : State) (L : List Loc) (E : String) (ce : Cell), st₀.heap = H ∧ Stand p l e R s m args below meth c T' (locs ++ L) (cells + mc) (slots + ms) ∧ (∀ z ∈ L, free z.base) ∧ T'.heap = t.heap ∧ T'.vm = t.vm ∧ XC E st₀ t ∧ t.heap[q]? = some ce ∧ ce.vm = .none ∧ s.vm.findClass E = some ce.cls ∧
      Steps p.tables e below (T.setTop g) ((T'.setTop { g with stack := rest }).pushFrame (.throwing q)))
def vx_X {S : Type} (px : S → Prop) (B : String → S → State → Prop) (A : Nat → Prop) : String → State → State → Prop := fun E st t => ∃ u : S, px u ∧ B E u t ∧ va_F A st t
section Runs
variable {p : Program} {l : Launch} {e : Env} {R : Room} {s : State} {m : MethodId} {args : Array Value} {below : List Frame} {meth : Method} {c : Code} {H : Heap} {locs : List Loc} {cells slots : Nat}
variable {y : MethodName} {bytes cc : ByteArray} {maxL nL mc ms n index : Nat} {ret : Option FieldType} {ws : List Cond} {rm : Room} {Pc : Array Value → State → Prop} {Qc : Array Value → State → Outcome → State → Prop} {XC : String → State → State → Prop} {free : Addr → Prop} {Ts : List Cond} {own C : String} {b : Addr} {As rest : List Value} {g : JFrame}
theorem vx_callBack (cb : CallB R s args own index y bytes maxL ret ws rm mc ms n) (hM : vx_Met l y ws rm Pc Qc XC mc ms free) (hbl : FrameBlind Pc) : vx_Back l R p e below s args y 3 8 (PreOf R mc ms Pc) (PostOf Qc mc ms free) (vx_Post XC mc ms free) := by
  obtain ⟨hrc, hrs, hfr, hlo, hws, hcw, -, hini, -⟩ := cb
  exact vx_back (bytes := bytes) (maxL := maxL) (ret := ret) hM hbl hrc hrs hfr hlo hws hcw (fun a' U hW => word_at hW (Or.inl (by first | rfl | simp [Cond.onTables, Cond.keeps, Cond.steady])) hini)
theorem vx_runV (S : CallFix p m c cc nL s args Ts own) (hM : vx_Met l y ws rm Pc Qc XC mc ms free) (cw : CallW R s args own C index y bytes maxL ret ws rm mc ms n) (hp : PreV s H C b Pc As)
    (hg : g.method = m) (hn : As.length = n) (hsize : g.locals.size = nL) (hstack : g.stack = As.reverse ++ .ref b :: rest) (hW : 2 * g.monitorRoom + (rest.map fun v => v.category).sum ≤ 8) (hdg : decode cc g.pc = .ok (.invokevirtual index, 3)) (hf : cells + mc ≤ R.cells ∧ slots + ms ≤ R.slots) :
    vx_Run p l e R s m args below meth c H locs cells slots mc ms g rest (Qc (Value.ref b :: As).toArray) XC free := by
  have hK : vx_Back l R p e below s args y 3 8 (PreOf R mc ms Pc) (PostOf Qc mc ms free) (vx_Post XC mc ms free) := vx_callBack cw.1 hM hp.1
  obtain ⟨⟨-, -, -, -, -, -, hcode, -, hy, hlen, hl⟩, hin, hse⟩ := cw
  obtain ⟨hx, hb, hml, ho, -⟩ := S
  obtain ⟨-, ⟨cellB, hcB, hoB, hclB⟩, hPc⟩ := hp
  intro T hT X
  rcases vx_callV X hx (C := C) (bytes := bytes) (maxL := maxL) (ret := ret) ho hl hin hse hcode hy hK (by rw [hT]; exact hcB) hoB hclB hg (hsize.trans hml.symm) (argsL := As) (rest := rest) (fun sig h => hn.trans (hlen sig h)) hstack hW (by rw [hb]; exact hdg)
    (fun vm₁ hW₁ => ⟨hf.1, hf.2, hPc (T.setVm vm₁) hT hW₁⟩) with ⟨v, vm₁, ⟨U', l2, c2, s2⟩, hW₁, X', ⟨g', mk, t, L, e1, e2, hq, h1, hL, h2, h3⟩, st⟩ | ⟨q, vm₁, ⟨U', l2, c2, s2⟩, hW₁, X', ⟨g', mk, t, L, E, ce, e1, e2, hq, hce, hcv, hcl, h1, hL, h2, h3⟩, st⟩
  · dsimp only [Pt.U, Pt.locs, Pt.cells, Pt.slots] at X' e1 e2 h1 h2 h3 st
    subst h1; subst h2; subst h3
    exact Or.inl ⟨v, (T.setVm vm₁).calling g' mk (Value.ref b :: As).toArray, t, U', L, hT, X', hL, e1, e2, hq, st⟩
  · dsimp only [Pt.U, Pt.locs, Pt.cells, Pt.slots] at X' e1 e2 h1 h2 h3 st hcl
    subst h1; subst h2; subst h3
    exact Or.inr ⟨q, (T.setVm vm₁).calling g' mk (Value.ref b :: As).toArray, t, U', L, E, ce, hT, X', hL, e1, e2, hq, hce, hcv, vx_cls hW₁ hcl, st⟩
theorem vx_runS (S : CallFix p m c cc nL s args Ts own) (hM : vx_Met l y ws rm Pc Qc XC mc ms free) (cw : CallB R s args own index y bytes maxL ret ws rm mc ms n ∧ (Cond.static y).before args s = true) (hp : PreS s H Pc As)
    (hg : g.method = m) (hn : As.length = n) (hsize : g.locals.size = nL) (hstack : g.stack = As.reverse ++ rest) (hW : 2 * g.monitorRoom + (rest.map fun v => v.category).sum ≤ 8) (hdg : decode cc g.pc = .ok (.invokestatic index, 3)) (hf : cells + mc ≤ R.cells ∧ slots + ms ≤ R.slots) :
    vx_Run p l e R s m args below meth c H locs cells slots mc ms g rest (Qc As.toArray) XC free := by
  have hK : vx_Back l R p e below s args y 3 8 (PreOf R mc ms Pc) (PostOf Qc mc ms free) (vx_Post XC mc ms free) := vx_callBack cw.1 hM hp.1
  obtain ⟨⟨-, -, -, -, -, -, hcode, hini, hy, hlen, hl⟩, hstt⟩ := cw
  obtain ⟨hx, hb, hml, ho, -⟩ := S
  intro T hT X
  rcases vx_callS X hx (bytes := bytes) (maxL := maxL) (ret := ret) ho hl hstt hini hcode hy hK hg (hsize.trans hml.symm) (argsL := As) (rest := rest) (fun sig h => hn.trans (hlen sig h)) hstack hW (by rw [hb]; exact hdg)
    (fun vm₁ hW₁ => ⟨hf.1, hf.2, hp.2 (T.setVm vm₁) hT hW₁⟩) with ⟨v, vm₁, ⟨U', l2, c2, s2⟩, hW₁, X', ⟨g', mk, t, L, e1, e2, hq, h1, hL, h2, h3⟩, st⟩ | ⟨q, vm₁, ⟨U', l2, c2, s2⟩, hW₁, X', ⟨g', mk, t, L, E, ce, e1, e2, hq, hce, hcv, hcl, h1, hL, h2, h3⟩, st⟩
  · dsimp only [Pt.U, Pt.locs, Pt.cells, Pt.slots] at X' e1 e2 h1 h2 h3 st
    subst h1; subst h2; subst h3
    exact Or.inl ⟨v, (T.setVm vm₁).calling g' mk As.toArray, t, U', L, hT, X', hL, e1, e2, hq, st⟩
  · dsimp only [Pt.U, Pt.locs, Pt.cells, Pt.slots] at X' e1 e2 h1 h2 h3 st hcl
    subst h1; subst h2; subst h3
    exact Or.inr ⟨q, (T.setVm vm₁).calling g' mk As.toArray, t, U', L, E, ce, hT, X', hL, e1, e2, hq, hce, hcv, vx_cls hW₁ hcl, st⟩
end Runs
section Rows
variable {p : Program} {l : Launch} {e : Env} {R : Room} {s : State} {m : MethodId} {args : Array Value} {below : List Frame} {meth : Method} {c : Code} {H : Heap} {locs : List Loc} {cells slots : Nat} {Q : State → Prop}
variable {mc ms : Nat} {free : Addr → Prop} {A0 A1 : Nat → Prop} {H0 : Heap} {a : Array Value} {pc : Nat} {ls : Array Slot} {st0 rest : List Value}
theorem vx_keep {st₀ t T' : State} {L : List Loc} (h0 : st₀.heap = H) (e1 : T'.heap = t.heap) (hS : va_S A0 H0 H locs) (hA : ∀ q, q < H.size → A1 q → A0 q) (hf : ∀ q, free q → A0 q) (hL : ∀ q ∈ L, free q.base) (hF : va_F A1 st₀ t) :
    H.size ≤ T'.heap.size ∧ (∀ q : Nat, q < H.size → ¬ A1 q → T'.heap[q]? = H[q]?) ∧ va_S A0 H0 T'.heap (locs ++ L) := by
  obtain ⟨hz, hk⟩ := hF
  rw [h0] at hz hk
  exact ⟨by rw [e1]; exact hz, fun q h1 h2 => by rw [e1]; exact hk q h1 h2,
    ⟨Nat.le_trans hS.1 (by rw [e1]; exact hz), fun q h1 h2 => by rw [e1, hk q (Nat.lt_of_lt_of_le h1 hS.1) (fun z => h2 (hA q (Nat.lt_of_lt_of_le h1 hS.1) z))]; exact hS.2.1 q h1 h2, fun q hq => by
      rcases List.mem_append.mp hq with h | h
      · exact hS.2.2 q h
      · exact hf _ (hL q h)⟩⟩
theorem vx_calli {S SX : Type} {post : Int32 → S → Prop} {px : SX → Prop} {B : S → State → Prop} {BX : String → SX → State → Prop} {AX : Nat → Prop} (hr : vx_Run p l e R s m args below meth c H locs cells slots mc ms (F0 m pc ls st0) rest (va_Qi post B A1 a) (vx_X px BX AX) free) (hS : va_S A0 H0 H locs) (hA : ∀ q, q < H.size → A1 q → A0 q) (hf : ∀ q, free q → A0 q) (hAX : ∀ q, q < H.size → AX q → A0 q)
    (kx : ∀ (E : String) (ce : Cell) (q9 : Addr) (u : SX) (t : State) (H1 : Heap) (locs1 : List Loc), t.heap = H1 → s.vm.Alike t.vm → px u → BX E u t → H.size ≤ H1.size → (∀ q : Nat, q < H.size → ¬ AX q → H1[q]? = H[q]?) → va_S A0 H0 H1 locs1 → H1[q9]? = some ce → ce.vm = .none → s.vm.findClass E = some ce.cls → vx_W p l e R s m args below meth c H1 locs1 (cells + mc) (slots + ms) Q (F0 m pc ls rest) q9)
    (kk : ∀ (r : Int32) (u : S) (t : State) (H1 : Heap) (locs1 : List Loc), t.heap = H1 → s.vm.Alike t.vm → post r u → B u t → H.size ≤ H1.size → (∀ q : Nat, q < H.size → ¬ A1 q → H1[q]? = H[q]?) → va_S A0 H0 H1 locs1 → W p l e R s m args below meth c H1 locs1 (cells + mc) (slots + ms) Q (F0 m (pc + 3) ls (.int r :: rest))) : W p l e R s m args below meth c H locs cells slots Q (F0 m pc ls st0) := by
  intro T hT X
  rcases hr T hT X with ⟨v, st₀, t, T', L, h0, X', hL, e1, e2, ⟨⟨r, u, hv, hp, hb⟩, hF⟩, st⟩ | ⟨q, st₀, t, T', L, E, ce, h0, X', hL, e1, e2, ⟨u, hp, hb, hF⟩, hce, hcv, hcl, st⟩
  · cases hv
    obtain ⟨k1, k2, k3⟩ := vx_keep h0 e1 hS hA hf hL hF
    obtain ⟨t2, a1, b1⟩ := kk r u t T'.heap (locs ++ L) e1.symm (by rw [← e2]; exact X'.warmed.alike) hp hb k1 k2 k3 T' rfl X'
    exact ⟨t2, st t2 a1, b1⟩
  · obtain ⟨k1, k2, k3⟩ := vx_keep h0 e1 hS hAX hf hL hF
    obtain ⟨t2, a1, b1⟩ := kx E ce q u t T'.heap (locs ++ L) e1.symm (by rw [← e2]; exact X'.warmed.alike) hp hb k1 k2 k3 (by rw [e1]; exact hce) hcv hcl T' rfl X'
    exact ⟨t2, st.trans a1, b1⟩
theorem vx_calll {S SX : Type} {post : Int64 → S → Prop} {px : SX → Prop} {B : S → State → Prop} {BX : String → SX → State → Prop} {AX : Nat → Prop} (hr : vx_Run p l e R s m args below meth c H locs cells slots mc ms (F0 m pc ls st0) rest (va_Ql post B A1 a) (vx_X px BX AX) free) (hS : va_S A0 H0 H locs) (hA : ∀ q, q < H.size → A1 q → A0 q) (hf : ∀ q, free q → A0 q) (hAX : ∀ q, q < H.size → AX q → A0 q)
    (kx : ∀ (E : String) (ce : Cell) (q9 : Addr) (u : SX) (t : State) (H1 : Heap) (locs1 : List Loc), t.heap = H1 → s.vm.Alike t.vm → px u → BX E u t → H.size ≤ H1.size → (∀ q : Nat, q < H.size → ¬ AX q → H1[q]? = H[q]?) → va_S A0 H0 H1 locs1 → H1[q9]? = some ce → ce.vm = .none → s.vm.findClass E = some ce.cls → vx_W p l e R s m args below meth c H1 locs1 (cells + mc) (slots + ms) Q (F0 m pc ls rest) q9)
    (kk : ∀ (r : Int64) (u : S) (t : State) (H1 : Heap) (locs1 : List Loc), t.heap = H1 → s.vm.Alike t.vm → post r u → B u t → H.size ≤ H1.size → (∀ q : Nat, q < H.size → ¬ A1 q → H1[q]? = H[q]?) → va_S A0 H0 H1 locs1 → W p l e R s m args below meth c H1 locs1 (cells + mc) (slots + ms) Q (F0 m (pc + 3) ls (.long r :: rest))) : W p l e R s m args below meth c H locs cells slots Q (F0 m pc ls st0) := by
  intro T hT X
  rcases hr T hT X with ⟨v, st₀, t, T', L, h0, X', hL, e1, e2, ⟨⟨r, u, hv, hp, hb⟩, hF⟩, st⟩ | ⟨q, st₀, t, T', L, E, ce, h0, X', hL, e1, e2, ⟨u, hp, hb, hF⟩, hce, hcv, hcl, st⟩
  · cases hv
    obtain ⟨k1, k2, k3⟩ := vx_keep h0 e1 hS hA hf hL hF
    obtain ⟨t2, a1, b1⟩ := kk r u t T'.heap (locs ++ L) e1.symm (by rw [← e2]; exact X'.warmed.alike) hp hb k1 k2 k3 T' rfl X'
    exact ⟨t2, st t2 a1, b1⟩
  · obtain ⟨k1, k2, k3⟩ := vx_keep h0 e1 hS hAX hf hL hF
    obtain ⟨t2, a1, b1⟩ := kx E ce q u t T'.heap (locs ++ L) e1.symm (by rw [← e2]; exact X'.warmed.alike) hp hb k1 k2 k3 (by rw [e1]; exact hce) hcv hcl T' rfl X'
    exact ⟨t2, st.trans a1, b1⟩
theorem vx_callf {S SX : Type} {post : UInt32 → S → Prop} {px : SX → Prop} {B : S → State → Prop} {BX : String → SX → State → Prop} {AX : Nat → Prop} (hr : vx_Run p l e R s m args below meth c H locs cells slots mc ms (F0 m pc ls st0) rest (va_Qf post B A1 a) (vx_X px BX AX) free) (hS : va_S A0 H0 H locs) (hA : ∀ q, q < H.size → A1 q → A0 q) (hf : ∀ q, free q → A0 q) (hAX : ∀ q, q < H.size → AX q → A0 q)
    (kx : ∀ (E : String) (ce : Cell) (q9 : Addr) (u : SX) (t : State) (H1 : Heap) (locs1 : List Loc), t.heap = H1 → s.vm.Alike t.vm → px u → BX E u t → H.size ≤ H1.size → (∀ q : Nat, q < H.size → ¬ AX q → H1[q]? = H[q]?) → va_S A0 H0 H1 locs1 → H1[q9]? = some ce → ce.vm = .none → s.vm.findClass E = some ce.cls → vx_W p l e R s m args below meth c H1 locs1 (cells + mc) (slots + ms) Q (F0 m pc ls rest) q9)
    (kk : ∀ (r : UInt32) (u : S) (t : State) (H1 : Heap) (locs1 : List Loc), t.heap = H1 → s.vm.Alike t.vm → post r u → B u t → H.size ≤ H1.size → (∀ q : Nat, q < H.size → ¬ A1 q → H1[q]? = H[q]?) → va_S A0 H0 H1 locs1 → W p l e R s m args below meth c H1 locs1 (cells + mc) (slots + ms) Q (F0 m (pc + 3) ls (.float r :: rest))) : W p l e R s m args below meth c H locs cells slots Q (F0 m pc ls st0) := by
  intro T hT X
  rcases hr T hT X with ⟨v, st₀, t, T', L, h0, X', hL, e1, e2, ⟨⟨r, u, hv, hp, hb⟩, hF⟩, st⟩ | ⟨q, st₀, t, T', L, E, ce, h0, X', hL, e1, e2, ⟨u, hp, hb, hF⟩, hce, hcv, hcl, st⟩
  · cases hv
    obtain ⟨k1, k2, k3⟩ := vx_keep h0 e1 hS hA hf hL hF
    obtain ⟨t2, a1, b1⟩ := kk r u t T'.heap (locs ++ L) e1.symm (by rw [← e2]; exact X'.warmed.alike) hp hb k1 k2 k3 T' rfl X'
    exact ⟨t2, st t2 a1, b1⟩
  · obtain ⟨k1, k2, k3⟩ := vx_keep h0 e1 hS hAX hf hL hF
    obtain ⟨t2, a1, b1⟩ := kx E ce q u t T'.heap (locs ++ L) e1.symm (by rw [← e2]; exact X'.warmed.alike) hp hb k1 k2 k3 (by rw [e1]; exact hce) hcv hcl T' rfl X'
    exact ⟨t2, st.trans a1, b1⟩
theorem vx_calld {S SX : Type} {post : UInt64 → S → Prop} {px : SX → Prop} {B : S → State → Prop} {BX : String → SX → State → Prop} {AX : Nat → Prop} (hr : vx_Run p l e R s m args below meth c H locs cells slots mc ms (F0 m pc ls st0) rest (va_Qd post B A1 a) (vx_X px BX AX) free) (hS : va_S A0 H0 H locs) (hA : ∀ q, q < H.size → A1 q → A0 q) (hf : ∀ q, free q → A0 q) (hAX : ∀ q, q < H.size → AX q → A0 q)
    (kx : ∀ (E : String) (ce : Cell) (q9 : Addr) (u : SX) (t : State) (H1 : Heap) (locs1 : List Loc), t.heap = H1 → s.vm.Alike t.vm → px u → BX E u t → H.size ≤ H1.size → (∀ q : Nat, q < H.size → ¬ AX q → H1[q]? = H[q]?) → va_S A0 H0 H1 locs1 → H1[q9]? = some ce → ce.vm = .none → s.vm.findClass E = some ce.cls → vx_W p l e R s m args below meth c H1 locs1 (cells + mc) (slots + ms) Q (F0 m pc ls rest) q9)
    (kk : ∀ (r : UInt64) (u : S) (t : State) (H1 : Heap) (locs1 : List Loc), t.heap = H1 → s.vm.Alike t.vm → post r u → B u t → H.size ≤ H1.size → (∀ q : Nat, q < H.size → ¬ A1 q → H1[q]? = H[q]?) → va_S A0 H0 H1 locs1 → W p l e R s m args below meth c H1 locs1 (cells + mc) (slots + ms) Q (F0 m (pc + 3) ls (.double r :: rest))) : W p l e R s m args below meth c H locs cells slots Q (F0 m pc ls st0) := by
  intro T hT X
  rcases hr T hT X with ⟨v, st₀, t, T', L, h0, X', hL, e1, e2, ⟨⟨r, u, hv, hp, hb⟩, hF⟩, st⟩ | ⟨q, st₀, t, T', L, E, ce, h0, X', hL, e1, e2, ⟨u, hp, hb, hF⟩, hce, hcv, hcl, st⟩
  · cases hv
    obtain ⟨k1, k2, k3⟩ := vx_keep h0 e1 hS hA hf hL hF
    obtain ⟨t2, a1, b1⟩ := kk r u t T'.heap (locs ++ L) e1.symm (by rw [← e2]; exact X'.warmed.alike) hp hb k1 k2 k3 T' rfl X'
    exact ⟨t2, st t2 a1, b1⟩
  · obtain ⟨k1, k2, k3⟩ := vx_keep h0 e1 hS hAX hf hL hF
    obtain ⟨t2, a1, b1⟩ := kx E ce q u t T'.heap (locs ++ L) e1.symm (by rw [← e2]; exact X'.warmed.alike) hp hb k1 k2 k3 (by rw [e1]; exact hce) hcv hcl T' rfl X'
    exact ⟨t2, st.trans a1, b1⟩
theorem vx_callv {S SX : Type} {post : S → Prop} {px : SX → Prop} {B : S → State → Prop} {BX : String → SX → State → Prop} {AX : Nat → Prop} (hr : vx_Run p l e R s m args below meth c H locs cells slots mc ms (F0 m pc ls st0) rest (va_Qv post B A1 a) (vx_X px BX AX) free) (hS : va_S A0 H0 H locs) (hA : ∀ q, q < H.size → A1 q → A0 q) (hf : ∀ q, free q → A0 q) (hAX : ∀ q, q < H.size → AX q → A0 q)
    (kx : ∀ (E : String) (ce : Cell) (q9 : Addr) (u : SX) (t : State) (H1 : Heap) (locs1 : List Loc), t.heap = H1 → s.vm.Alike t.vm → px u → BX E u t → H.size ≤ H1.size → (∀ q : Nat, q < H.size → ¬ AX q → H1[q]? = H[q]?) → va_S A0 H0 H1 locs1 → H1[q9]? = some ce → ce.vm = .none → s.vm.findClass E = some ce.cls → vx_W p l e R s m args below meth c H1 locs1 (cells + mc) (slots + ms) Q (F0 m pc ls rest) q9)
    (kk : ∀ (u : S) (t : State) (H1 : Heap) (locs1 : List Loc), t.heap = H1 → s.vm.Alike t.vm → post u → B u t → H.size ≤ H1.size → (∀ q : Nat, q < H.size → ¬ A1 q → H1[q]? = H[q]?) → va_S A0 H0 H1 locs1 → W p l e R s m args below meth c H1 locs1 (cells + mc) (slots + ms) Q (F0 m (pc + 3) ls (rest))) : W p l e R s m args below meth c H locs cells slots Q (F0 m pc ls st0) := by
  intro T hT X
  rcases hr T hT X with ⟨v, st₀, t, T', L, h0, X', hL, e1, e2, ⟨⟨u, hv, hp, hb⟩, hF⟩, st⟩ | ⟨q, st₀, t, T', L, E, ce, h0, X', hL, e1, e2, ⟨u, hp, hb, hF⟩, hce, hcv, hcl, st⟩
  · cases hv
    obtain ⟨k1, k2, k3⟩ := vx_keep h0 e1 hS hA hf hL hF
    obtain ⟨t2, a1, b1⟩ := kk u t T'.heap (locs ++ L) e1.symm (by rw [← e2]; exact X'.warmed.alike) hp hb k1 k2 k3 T' rfl X'
    exact ⟨t2, st t2 a1, b1⟩
  · obtain ⟨k1, k2, k3⟩ := vx_keep h0 e1 hS hAX hf hL hF
    obtain ⟨t2, a1, b1⟩ := kx E ce q u t T'.heap (locs ++ L) e1.symm (by rw [← e2]; exact X'.warmed.alike) hp hb k1 k2 k3 (by rw [e1]; exact hce) hcv hcl T' rfl X'
    exact ⟨t2, st.trans a1, b1⟩
/-- caught by the row x of this method's table; the rows ahead don't take it -/
theorem vx_catch {own name : String} {E : String} {ce : Cell} {q : Addr} (hown : s.vm.findClass own = some m.cls) (pre : List ExceptionTableEntry) (x : ExceptionTableEntry) (suf : List ExceptionTableEntry) (hsplit : c.exceptionTable.toList = pre ++ x :: suf)
    (hpass : ∀ z ∈ pre, covers z pc = false ∨ (z.catchType ≠ 0 ∧ ∃ nm : String, (Cond.classLink own z.catchType nm).before args s = true ∧ va_Nc E nm s)) (hx : covers x pc = true) (h0 : x.catchType ≠ 0)
    (hlink : (Cond.classLink own x.catchType name).before args s = true) (hcast : (Cond.castable E name).before args s = true) (hcell : H[q]? = some ce) (hv : ce.vm = .none) (hcl : s.vm.findClass E = some ce.cls)
    (kk : W p l e R s m args below meth c H locs cells slots Q (F0 m x.handlerPc ls [.ref q])) : vx_W p l e R s m args below meth c H locs cells slots Q (F0 m pc ls rest) q := by
  intro T hT X
  have hpl : e.platform.magicAccessors = ({} : Platform).magicAccessors := by rw [X.admits.platform]
  obtain ⟨c3, c4, hc3, hc4, hasg⟩ := Cond.castable_spec hcast
  cases Option.some.inj (hc3.symm.trans hcl)
  obtain ⟨c5, hc5, hcl5⟩ := Cond.classLink_spec hown hlink e.platform hpl
  cases Option.some.inj (hc4.symm.trans hc5)
  obtain ⟨vm', X', st⟩ := X.thenCaughtThrough q (g := F0 m pc ls rest) rfl (Steps.refl _) (by rw [hT]; exact hcell) (by rw [hv]; rfl) (by obtain ⟨k9, h9, -⟩ := Vm.findClass_spec hcl; exact ⟨k9, h9⟩) pre x suf hsplit
    (fun z hz => by
      rcases hpass z hz with h | ⟨hz0, nm, hl1, hn1⟩
      · exact Or.inl h
      · obtain ⟨c6, hc6, hcl6⟩ := Cond.classLink_spec hown hl1 e.platform hpl
        obtain ⟨a8, b8, h1, h2, h3⟩ := hn1
        cases Option.some.inj (h1.symm.trans hcl)
        cases Option.some.inj (h2.symm.trans hc6)
        exact Or.inr ⟨hz0, _, hcl6, h3⟩) hx (Or.inr ⟨h0, c4, hcl5, hasg⟩)
  obtain ⟨t, a1, b1⟩ := kk (T.setVm vm') hT X'
  exact ⟨t, st.trans a1, b1⟩
end Rows
section Ends
variable {p : Program} {l : Launch} {e : Env} {R : Room} {s : State} {m : MethodId} {args : Array Value} {below : List Frame} {meth : Method} {c : Code} {H : Heap} {locs : List Loc} {cells slots : Nat} {Q : State → Prop}
variable {mc ms : Nat} {free : Addr → Prop} {A0 A1 : Nat → Prop} {H0 : Heap} {a : Array Value} {ls : Array Slot} {st0 rest : List Value}
variable {Qc : Array Value → State → Outcome → State → Prop} {XC : String → State → State → Prop}
/-- what a body that may throw owes at its end -/
def vx_MQ (below : List Frame) (Qc : Array Value → State → Outcome → State → Prop) (XC : String → State → State → Prop) (a : Array Value) (s : State) (mc ms : Nat) (free : Addr → Prop) : State → Prop := fun t =>
  ∃ o, t.status = .running ∧ Ended t below o ∧ vx_Q Qc XC mc ms free a s o t
theorem vx_ret {g : JFrame} {mc ms : Nat} (k : W p l e R s m args below meth c H locs cells slots (MQ below Qc args s mc ms free) g) : W p l e R s m args below meth c H locs cells slots (vx_MQ below Qc XC args s mc ms free) g := by
  intro T hT X
  obtain ⟨t, a1, o, b1, b2, b3, b4⟩ := k T hT X
  exact ⟨t, a1, o, b1, b2, Or.inl ⟨b3, b4⟩⟩
/-- not caught here: it goes on to the caller -/
theorem vx_widen {g : JFrame} {q : Addr} {k n : Nat} (h1 : cells ≤ k) (h2 : slots ≤ n) (kk : vx_W p l e R s m args below meth c H locs k n Q g q) : vx_W p l e R s m args below meth c H locs cells slots Q g q := fun T hT X => kk T hT (stand_widen X h1 h2)
theorem vx_out {pc : Nat} {E : String} {ce : Cell} {q : Addr} {mc ms : Nat} (hout : ∀ x ∈ c.exceptionTable.toList, covers x pc = false) (hlocks : meth.locks = false) (hcell : H[q]? = some ce) (hv : ce.vm = .none) (hcl : s.vm.findClass E = some ce.cls)
    (hx : ∀ t : State, t.heap = H → s.vm.Alike t.vm → XC E s t) (hf : ∀ z ∈ locs, free z.base) (hc : cells ≤ mc) (hs : slots ≤ ms) :
    vx_W p l e R s m args below meth c H locs cells slots (vx_MQ below Qc XC args s mc ms free) (F0 m pc ls rest) q := by
  intro T hT X
  obtain ⟨st1, hrun, hend, hW, hsm⟩ := X.leaveThrown q (g := F0 m pc ls rest) rfl rfl rfl hout hlocks
  have hcell9 : (T.setFrames (.throwing q :: below)).heap[q]? = some ce := by
    show T.heap[q]? = some ce
    rw [hT]; exact hcell
  exact ⟨_, st1, .threw q, hrun, hend, Or.inr ⟨q, rfl, E, ce, locs, hx _ hT hW.alike, hcell9, hv, hcl, hW, hsm.mono hc hs, hf⟩⟩
theorem vx_frame {U : State} {k n : Nat} (h : s.sameButNew ({ U with vm := s.vm } : State) locs k n) : s.heap.size ≤ U.heap.size ∧ ∀ q : Nat, q < s.heap.size → (∀ z ∈ locs, z.base ≠ q) → U.heap[q]? = s.heap[q]? := by
  obtain ⟨-, h2, -, -, -, h6⟩ := h
  refine ⟨h2, fun q hq hz => ?_⟩
  obtain ⟨c9, e1, e2, e3, e4⟩ := h6 q _ (Array.getElem?_eq_getElem hq)
  have hs : c9.slots = (s.heap[q]).slots := Array.ext_getElem? fun i => e4 i fun hm => hz _ hm rfl
  have h9 : c9 = s.heap[q] := by
    rw [hs] at e2
    exact e2
  have e5 : U.heap[q]? = some c9 := e1
  rw [e5, h9, Array.getElem?_eq_getElem hq]
/-- the words of a throw but the four that speak of the heap -/
def vx_no (w : Cond) : Bool := decide (w ≠ .isRef (.static Bundle.tN "UNASSIGNED_STACK" Bundle.steD)) && decide (w ≠ .isRef (.static Bundle.tN "SUPPRESSED_SENTINEL" Bundle.listD)) && decide (w ≠ .laysStatic Bundle.tN "UNASSIGNED_STACK" Bundle.steD) && decide (w ≠ .laysStatic Bundle.tN "SUPPRESSED_SENTINEL" Bundle.listD)
def vx_at0 (own : String) (ic : Nat) (X : String) (names : List String) : List Cond := (Bundle.ownAtoms0 own ic X names).filter vx_no
def vx_atS (own : String) (ic : Nat) (X : String) (names : List String) : List Cond := (Bundle.ownAtoms own ic X names).filter vx_no
/-- a word that the tables alone decide, or a good one -/
def vx_ot (w : Cond) : Bool := w.onTables || goodWord w
theorem vx_ot_at {args a' : Array Value} {s U : State} {w : Cond} (hW : s.WarmedH U.vm) (hvm : s.vm = U.vm) (hg : vx_ot w = true) (h : w.before args s = true) : w.before a' U = true := by
  simp only [vx_ot, Bool.or_eq_true] at hg
  rcases hg with hg | hg
  · exact va_tabs hg hvm h
  · exact word_at hW (good_of_word hg) h
/-- a list's words: the good ones out of the method's own list, the others by premises of their own -/
theorem vx_hat {args : Array Value} {s : State} {L B : List Cond} (h1 : ∀ w ∈ L.filter goodWord, w.before args s = true) (h2 : ∀ w ∈ L.filter (fun w => !goodWord w), w ∈ B) (h3 : ∀ w ∈ B, w.before args s = true) : ∀ w ∈ L, w.before args s = true := by
  intro w hw
  by_cases g : goodWord w = true
  · exact h1 w (List.mem_filter.mpr ⟨hw, g⟩)
  · refine h3 w (h2 w (List.mem_filter.mpr ⟨hw, ?_⟩))
    show (!goodWord w) = true
    cases hgw : goodWord w
    · rfl
    · exact absurd hgw g
theorem vx_c {args : Array Value} {s : State} {w : Cond} {B : List Cond} (h : w.before args s = true) (t : ∀ w ∈ B, w.before args s = true) : ∀ w' ∈ w :: B, w'.before args s = true := fun w' h' => (List.mem_cons.mp h').elim (fun e => by rw [e]; exact h) (t w')
theorem vx_n {args : Array Value} {s : State} : ∀ w ∈ ([] : List Cond), w.before args s = true := fun _ h => nomatch h
theorem vx_own {args : Array Value} {s : State} {L : List Cond} (h1 : ∀ w ∈ L.filter vx_no, w.before args s = true)
    (hU : (Cond.isRef (.static Bundle.tN "UNASSIGNED_STACK" Bundle.steD)).before args s = true) (hN : (Cond.isRef (.static Bundle.tN "SUPPRESSED_SENTINEL" Bundle.listD)).before args s = true)
    (lU : (Cond.laysStatic Bundle.tN "UNASSIGNED_STACK" Bundle.steD).before args s = true) (lN : (Cond.laysStatic Bundle.tN "SUPPRESSED_SENTINEL" Bundle.listD).before args s = true) : ∀ w ∈ L, w.before args s = true := by
  intro w hw
  by_cases e1 : w = .isRef (.static Bundle.tN "UNASSIGNED_STACK" Bundle.steD)
  · rw [e1]; exact hU
  · by_cases e2 : w = .isRef (.static Bundle.tN "SUPPRESSED_SENTINEL" Bundle.listD)
    · rw [e2]; exact hN
    · by_cases e3 : w = .laysStatic Bundle.tN "UNASSIGNED_STACK" Bundle.steD
      · rw [e3]; exact lU
      · by_cases e4 : w = .laysStatic Bundle.tN "SUPPRESSED_SENTINEL" Bundle.listD
        · rw [e4]; exact lN
        · exact h1 w (List.mem_filter.mpr ⟨hw, by unfold vx_no; rw [decide_eq_true e1, decide_eq_true e2, decide_eq_true e3, decide_eq_true e4]; rfl⟩)
/-- where a static field lies, its class's statics cell in H -/
def vx_L (C n d : String) (A : Nat → Prop) (U : State) (H : Heap) : Prop := ∃ (c : ClassId) (k : Class) (i : Nat) (f : Field) (a : Nat) (cell : Cell), U.vm.findClass C = some c ∧ U.fieldFound? C n d = some (c, k, i, f) ∧ f.isStatic = true ∧ k.statics = some a ∧ H[a]? = some cell ∧ cell.vm.isStatics = true ∧ cell.cls = c ∧ f.slot < cell.slots.size ∧ k.staticTypes[f.slot]? = some f.type ∧ ¬ A a
theorem vx_L.moved {C n d : String} {A : Nat → Prop} {u U : State} {H : Heap} (hvm : u.vm.Alike U.vm) (h : vx_L C n d A u H) : vx_L C n d A U H := by
  obtain ⟨c, k, i, f, a, cell, h1, h2, h3, h4, h5, h6, h7, h8, h9, h10⟩ := h
  obtain ⟨k', hi', he⟩ := State.fieldFound?_setVm hvm h2
  exact ⟨c, k', i, f, a, cell, by rw [hvm.findClass]; exact h1, hi', h3, by rw [he]; exact h4, h5, h6, h7, h8, by rw [he]; exact h9, h10⟩
theorem vx_L.kept {C n d : String} {A : Nat → Prop} {U : State} {H H1 : Heap} (h : vx_L C n d A U H) (hq : ∀ a : Nat, a < H.size → ¬ A a → H1[a]? = H[a]?) : vx_L C n d A U H1 := by
  obtain ⟨c, k, i, f, a, cell, h1, h2, h3, h4, h5, h6, h7, h8, h9, h10⟩ := h
  exact ⟨c, k, i, f, a, cell, h1, h2, h3, h4, by rw [hq a (Array.getElem?_eq_some_iff.mp h5).1 h10]; exact h5, h6, h7, h8, h9, h10⟩
theorem vx_L.narrow {C n d : String} {A B : Nat → Prop} {U : State} {H : Heap} (h : vx_L C n d A U H) (hAB : ∀ q, B q → A q) : vx_L C n d B U H := by
  obtain ⟨c, k, i, f, a, cell, h1, h2, h3, h4, h5, h6, h7, h8, h9, h10⟩ := h
  exact ⟨c, k, i, f, a, cell, h1, h2, h3, h4, h5, h6, h7, h8, h9, fun z => h10 (hAB _ z)⟩
theorem vx_L.word {C n d : String} {A : Nat → Prop} {s : State} {args : Array Value} (h : vx_L C n d A s s.heap) : (Cond.laysStatic C n d).before args s = true := by
  obtain ⟨c, k, i, f, a, cell, h1, h2, h3, h4, h5, h6, h7, h8, h9, -⟩ := h
  show (Cond.laysStatic C n d).holds args s none s [] = true
  exact Cond.laysStatic_of h1 h2 h3 h4 h5 h6 h7 h8 h9
/-- .. and what it holds: null or some reference -/
def vx_Zq (C n d : String) (A : Nat → Prop) (U : State) (H : Heap) : Prop := va_Zq C n d A U H ∧ vx_L C n d A U H
theorem vx_Zq.moved {C n d : String} {A : Nat → Prop} {u U : State} {H : Heap} (hvm : u.vm.Alike U.vm) (h : vx_Zq C n d A u H) : vx_Zq C n d A U H := ⟨va_Zq.moved hvm h.1, vx_L.moved hvm h.2⟩
theorem vx_Zq.kept {C n d : String} {A : Nat → Prop} {U : State} {H H1 : Heap} (h : vx_Zq C n d A U H) (hq : ∀ a : Nat, a < H.size → ¬ A a → H1[a]? = H[a]?) : vx_Zq C n d A U H1 := ⟨va_Zq.kept h.1 hq, vx_L.kept h.2 hq⟩
theorem vx_Zq.narrow {C n d : String} {A B : Nat → Prop} {U : State} {H : Heap} (h : vx_Zq C n d A U H) (hAB : ∀ q, B q → A q) : vx_Zq C n d B U H := ⟨va_Zq.narrow h.1 hAB, vx_L.narrow h.2 hAB⟩
theorem vx_Zqof {args : Array Value} {s : State} {C n d : String} {A : Nat → Prop} (hl : (Cond.laysStatic C n d).before args s = true) (hini : (Cond.initialized C).before args s = true) (h : (Cond.isRef (.static C n d)).before args s = true) (hA : ∀ a : Nat, a < s.heap.size → ¬ A a) : vx_Zq C n d A s s.heap := by
  refine ⟨va_Zqof hl hini h hA, ?_⟩
  obtain ⟨c, k, i, f, a, cell, h1, h2, h3, h4, h5, h6, h7, h8, h9⟩ := Cond.laysStatic_spec hl
  exact ⟨c, k, i, f, a, cell, h1, h2, h3, h4, h5, h6, h7, h8, h9, hA a (Array.getElem?_eq_some_iff.mp h5).1⟩
theorem vx_isRef {C n d : String} {v : Value} {A : Nat → Prop} {s : State} {args : Array Value} (h : va_Z C n d v A s s.heap) (hv : v.isRef = true) : (Cond.isRef (.static C n d)).before args s = true := by
  obtain ⟨cf, kf, fi, f, a, cell, h1, h2, h3, h4, h5, h6, h7, -⟩ := h
  have he : (Term.static C n d).eval args s none [] s = some v := by
    simp [Term.eval, State.fieldNamed?, h1, h2, h4, h5, h6, h7]
  simp only [Cond.before, Cond.holds, Cond.value, he]
  cases v <;> simp_all [Value.isRef]
theorem vx_isRefq {C n d : String} {A : Nat → Prop} {s : State} {args : Array Value} (h : va_Zq C n d A s s.heap) : (Cond.isRef (.static C n d)).before args s = true := by
  rcases h with h | ⟨t, h⟩
  · exact vx_isRef h rfl
  · exact vx_isRef h rfl
/-- the same frame, seen from here: as if the method were called anew in this heap -/
theorem vx_rebase {T : State} (X : Stand p l e R s m args below meth c T locs cells slots) {R' : Room} (hf : R'.frames ≤ R.frames) (hl : R'.locals ≤ R.locals) (hc : cells + R'.cells ≤ R.cells) (hs : slots + R'.slots ≤ R.slots) :
    Stand p l e R' ((T.setVm s.vm).setFrames (.invoking m args :: below)) m args below meth c T [] 0 0 := by
  have htop : (T.setVm s.vm).topJava?.isSome := X.here.top
  have hF : ((T.setVm s.vm).setFrames (.invoking m args :: below)).frames = .invoking m args :: below := State.frames_setFrames _ (State.cur_lt_of_top htop)
  obtain ⟨g₀, hg0⟩ := Option.isSome_iff_exists.mp htop
  obtain ⟨r, hr⟩ := State.topJava?_eq_some.mp hg0
  have hl9 : e.platform.stackLimits (T.setVm s.vm).me = e.platform.stackLimits s.me := X.limits
  have hb9 : (T.setVm s.vm).me.stackBytes = s.me.stackBytes := X.bytes
  refine ⟨X.admits, X.cas, X.clock, hF, ?_, X.hears, X.method, X.code, X.here, X.tail, X.warmed, ?_, ?_, ?_⟩
  · have h := X.room
    have hU : ((T.setVm s.vm).setFrames (.invoking m args :: below)).localsInUse = s.localsInUse := by
      rw [State.localsInUse_invoking hF (meth := meth) (c := c) X.method X.code, State.localsInUse_invoking X.frames X.method X.code]
    simp only [State.hasRoom, Bool.and_eq_true, decide_eq_true_eq] at h ⊢
    obtain ⟨⟨⟨⟨h1, h2, h3, h4, h5, h6⟩, h7⟩, h8⟩, h9⟩ := h
    rw [X.frames, List.length_cons] at h2 h3
    have q1 := X.heapSize
    have q2 := X.used
    simp only [hF, hU, List.length_cons, State.stackLimits_setFrames, State.stackBytes_setFrames, hl9, hb9]
    refine ⟨⟨⟨⟨by omega, by omega, by omega, by omega, by omega, h6⟩, ?_⟩, ?_⟩, X.book⟩
    · show T.heap.size + R'.cells ≤ e.platform.maxCells
      omega
    · show T.slotsUsed + R'.slots ≤ e.platform.maxSlots
      omega
  · rw [State.stackLimits_setFrames]; rfl
  · rw [State.stackBytes_setFrames]; rfl
  · refine ⟨?_, Nat.le_refl _, Nat.le_refl _, ?_, ?_, fun a c9 h9 => ⟨c9, h9, rfl, rfl, fun _ _ => rfl⟩⟩
    · obtain ⟨t, ht, -⟩ := State.frames_cons hr
      show T.setVm s.vm = { ((T.setVm s.vm).setFrames (.invoking m args :: below)).setFrames (T.setVm s.vm).frames with heap := T.heap, slotsUsed := T.slotsUsed }
      rw [State.setFrames_setFrames, State.setFrames_self ht]
      rfl
    · show T.slotsUsed = T.slotsUsed + ((T.heap.toList.drop T.heap.size).map (·.slots.size)).sum
      rw [List.drop_eq_nil_of_le (Nat.le_of_eq Array.length_toList)]
      rfl
    · show ((T.heap.toList.drop T.heap.size).map (·.slots.size)).sum ≤ 0
      rw [List.drop_eq_nil_of_le (Nat.le_of_eq Array.length_toList)]
      exact Nat.le_refl _
/-- 'throw new E()': new; dup; invokespecial; athrow -/
theorem vx_throw0 {cc : ByteArray} {pc : Nat} (hexec : p.tables.exec = Jvm.exec) (hb : c.code = cc) (hl : l.stackTraces = false) {own cls : String} {names : List String} {ik ic mc ms : Nat} {A : Nat → Prop}
    (hown : s.vm.findClass own = some m.cls) (hcls : Bundle.fit cls = true) (hnames : ∀ n ∈ names, Bundle.fit n = true)
    (hk : (Cond.classLink own ik cls).before args s = true) (hini : (Cond.initialized cls).before args s = true) (hat : ∀ w ∈ vx_at0 own ic cls names, w.before args s = true)
    (hgood : ∀ w ∈ Cond.classLink own ik cls :: Cond.initialized cls :: vx_at0 own ic cls names, vx_ot w = true)
    (hU : vx_Zq Bundle.tN "UNASSIGNED_STACK" Bundle.steD A s s.heap) (hN : vx_Zq Bundle.tN "SUPPRESSED_SENTINEL" Bundle.listD A s s.heap) (hS : va_S A s.heap H locs) (hsize : ls.size = c.maxLocals)
    (d0 : decode cc pc = .ok (.new ik, 3)) (d3 : decode cc (pc + 3) = .ok (.dup, 1)) (d4 : decode cc (pc + 4) = .ok (.invokespecial ic, 3)) (d7 : decode cc (pc + 7) = .ok (.athrow, 1))
    (hout : ∀ x ∈ c.exceptionTable.toList, covers x (pc + 7) = false)
    (hRframes : names.length + 3 < R.frames) (hRlocals : (rest.map fun v => v.category).sum + (13 * (names.length + 1) + 42) ≤ R.locals) (hRcells : cells + 1 ≤ R.cells) (hRslots : slots + 6 ≤ R.slots) (hlocks : meth.locks = false)
    (hx : ∀ t : State, s.vm.Alike t.vm → H.size ≤ t.heap.size → (∀ q : Nat, q < H.size → t.heap[q]? = H[q]?) → XC cls s t)
    (hf : ∀ z ∈ locs, free z.base) (hc : cells + 1 ≤ mc) (hs : slots + 6 ≤ ms) :
    W p l e R s m args below meth c H locs cells slots (vx_MQ below Qc XC args s mc ms free) (F0 m pc ls rest) := by
  intro T hT X
  have htr : e.platform.stackTraces = false := (show e.platform.stackTraces = l.stackTraces by rw [X.admits.platform]).trans hl
  have Y := vx_rebase X (R' := { frames := R.frames, locals := R.locals, cells := 1, slots := 6 }) (Nat.le_refl _) (Nat.le_refl _) hRcells hRslots
  obtain ⟨s', hA⟩ : ∃ z, z = (T.setVm s.vm).setFrames (.invoking m args :: below) := ⟨_, rfl⟩
  rw [← hA] at Y
  have hvm : s'.vm = s.vm := by rw [hA]; rfl
  have hhp : s'.heap = H := by rw [hA]; exact hT
  have hW0 : s.WarmedH s'.vm := by rw [hvm]; exact State.WarmedH.refl s
  have hat' : ∀ w ∈ vx_at0 own ic cls names, w.before args s' = true := fun w hw => vx_ot_at hW0 hvm.symm (hgood w (List.mem_cons_of_mem _ (List.mem_cons_of_mem _ hw))) (hat w hw)
  have hk' : (Cond.classLink own ik cls).before args s' = true := vx_ot_at hW0 hvm.symm (hgood _ List.mem_cons_self) hk
  have hini' : (Cond.initialized cls).before args s' = true := vx_ot_at hW0 hvm.symm (hgood _ (List.mem_cons_of_mem _ List.mem_cons_self)) hini
  have hU' : vx_Zq Bundle.tN "UNASSIGNED_STACK" Bundle.steD A s' s'.heap := by rw [hhp]; exact vx_Zq.moved hW0.alike (hU.kept hS.2.1)
  have hN' : vx_Zq Bundle.tN "SUPPRESSED_SENTINEL" Bundle.listD A s' s'.heap := by rw [hhp]; exact vx_Zq.moved hW0.alike (hN.kept hS.2.1)
  have h : ∀ w ∈ Bundle.ownAtoms0 own ic cls names, w.before args s' = true := vx_own hat' (vx_isRefq hU'.1) (vx_isRefq hN'.1) hU'.2.word hN'.2.word
  have hown' : s'.vm.findClass own = some m.cls := by rw [hvm]; exact hown
  have hins : (Cond.instantiable cls 6).before args s' = true := h _ (by simp [Bundle.ownAtoms0])
  obtain ⟨vm₁, cX, kX, hfX, hkX, -, -, X₁, st1⟩ := Y.newCold hexec (own := own) (C := cls) (index := ik) (n := 6) hown' hk' hins hini'
    (g := F0 m pc ls rest) rfl (by rw [hb]; exact d0) (Nat.le_refl _) (Nat.le_refl _)
  generalize hT1 : (T.setVm vm₁).pushCell { cls := cX, slots := kX.instanceTypes.map defaultValue, vm := .none } = T1 at X₁ st1
  have hcat : (Value.ref T.heap.size).category = 1 := rfl
  have hcellA : T1.heap[T.heap.size]? = some (freshCell cX kX) := by rw [← hT1]; exact State.heap_pushCell_size _ _
  have d3' : decode c.code (pc + 3) = .ok (.dup, 1) := by rw [hb]; exact d3
  obtain ⟨U, hsteps, hrun, hend, hW, hsame, ce, hce, hO⟩ := X₁.ctorThrow0 hexec htr (own := own) (cls := cls) (names := names) (ic := ic) hown' hcls hnames h (fun x hx => nomatch hx) hfX hkX hcellA (by rw [hhp, hT]; exact Nat.le_refl _)
    (g := { method := m, pc := pc + 4, locals := ls, stack := .ref T.heap.size :: .ref T.heap.size :: rest, locked := none }) rfl hsize rfl rfl (rest := rest) rfl
    (by rw [hb]; exact d4) (by rw [hb]; exact d7) hout hRframes (by simp only [List.map_cons, List.sum_cons, hcat]; omega) hlocks
  obtain ⟨f1, f2⟩ := vx_frame hsame
  rw [hhp] at f1 f2
  have hWs : s.WarmedH U.vm := State.WarmedH.trans hW0 hW
  have hcl : s.vm.findClass cls = some ce.cls := by
    have h9 := hO.cls
    rw [hvm] at h9
    exact h9
  have hall : s.sameButNew ({ U with vm := s.vm } : State) locs mc ms := by
    subst hA
    obtain ⟨e1, e2⟩ := hsame
    rw [State.setFrames_setFrames] at e1
    have h2 : (T.setVm s.vm).sameButNew ({ U with vm := s.vm } : State) [] (0 + 1) (0 + 6) := ⟨e1, e2⟩
    have h3 := X.same.trans h2
    rw [List.append_nil] at h3
    exact h3.mono hc hs
  refine ⟨U, ?_, .threw T.heap.size, hrun, hend, Or.inr ⟨T.heap.size, rfl, cls, ce, locs, hx U hWs.alike f1 (fun q hq => f2 q hq (fun z hz => nomatch hz)), hce, hO.vm, hcl, hWs, hall, hf⟩⟩
  refine st1 _ ?_
  show Steps p.tables e below (T1.setTop { method := m, pc := pc + 3, locals := ls, stack := .ref T.heap.size :: rest, locked := none }) _
  jvm_step X₁.here [X₁.here.top, hexec, d3', Value.category]
  exact hsteps
/-- 'throw new E("text")': new; dup; ldc; invokespecial; athrow -/
theorem vx_throwS {cc : ByteArray} {pc : Nat} (hexec : p.tables.exec = Jvm.exec) (hb : c.code = cc) (hl : l.stackTraces = false) {own cls text : String} {names : List String} {ik is ic mc ms sa : Nat} {A : Nat → Prop}
    (hown : s.vm.findClass own = some m.cls) (hcls : Bundle.fit cls = true) (hnames : ∀ n ∈ names, Bundle.fit n = true)
    (hk : (Cond.classLink own ik cls).before args s = true) (hini : (Cond.initialized cls).before args s = true) (hstr : vk_R own is text sa s) (hat : ∀ w ∈ vx_atS own ic cls names, w.before args s = true)
    (hgood : ∀ w ∈ Cond.classLink own ik cls :: Cond.initialized cls :: vx_atS own ic cls names, vx_ot w = true)
    (hU : vx_Zq Bundle.tN "UNASSIGNED_STACK" Bundle.steD A s s.heap) (hN : vx_Zq Bundle.tN "SUPPRESSED_SENTINEL" Bundle.listD A s s.heap) (hS : va_S A s.heap H locs) (hsize : ls.size = c.maxLocals)
    (d0 : decode cc pc = .ok (.new ik, 3)) (d3 : decode cc (pc + 3) = .ok (.dup, 1)) (d4 : decode cc (pc + 4) = .ok (.ldc is, 2)) (d6 : decode cc (pc + 6) = .ok (.invokespecial ic, 3)) (d9 : decode cc (pc + 9) = .ok (.athrow, 1))
    (hout : ∀ x ∈ c.exceptionTable.toList, covers x (pc + 9) = false)
    (hRframes : names.length + 3 < R.frames) (hRlocals : (rest.map fun v => v.category).sum + (13 * (names.length + 1) + 43) ≤ R.locals) (hRcells : cells + 1 ≤ R.cells) (hRslots : slots + 6 ≤ R.slots) (hlocks : meth.locks = false)
    (hx : ∀ t : State, s.vm.Alike t.vm → H.size ≤ t.heap.size → (∀ q : Nat, q < H.size → t.heap[q]? = H[q]?) → XC cls s t)
    (hf : ∀ z ∈ locs, free z.base) (hc : cells + 1 ≤ mc) (hs : slots + 6 ≤ ms) :
    W p l e R s m args below meth c H locs cells slots (vx_MQ below Qc XC args s mc ms free) (F0 m pc ls rest) := by
  intro T hT X
  have htr : e.platform.stackTraces = false := (show e.platform.stackTraces = l.stackTraces by rw [X.admits.platform]).trans hl
  have Y := vx_rebase X (R' := { frames := R.frames, locals := R.locals, cells := 1, slots := 6 }) (Nat.le_refl _) (Nat.le_refl _) hRcells hRslots
  obtain ⟨s', hA⟩ : ∃ z, z = (T.setVm s.vm).setFrames (.invoking m args :: below) := ⟨_, rfl⟩
  rw [← hA] at Y
  have hvm : s'.vm = s.vm := by rw [hA]; rfl
  have hhp : s'.heap = H := by rw [hA]; exact hT
  have hW0 : s.WarmedH s'.vm := by rw [hvm]; exact State.WarmedH.refl s
  have hat' : ∀ w ∈ vx_atS own ic cls names, w.before args s' = true := fun w hw => vx_ot_at hW0 hvm.symm (hgood w (List.mem_cons_of_mem _ (List.mem_cons_of_mem _ hw))) (hat w hw)
  have hk' : (Cond.classLink own ik cls).before args s' = true := vx_ot_at hW0 hvm.symm (hgood _ List.mem_cons_self) hk
  have hini' : (Cond.initialized cls).before args s' = true := vx_ot_at hW0 hvm.symm (hgood _ (List.mem_cons_of_mem _ List.mem_cons_self)) hini
  have hU' : vx_Zq Bundle.tN "UNASSIGNED_STACK" Bundle.steD A s' s'.heap := by rw [hhp]; exact vx_Zq.moved hW0.alike (hU.kept hS.2.1)
  have hN' : vx_Zq Bundle.tN "SUPPRESSED_SENTINEL" Bundle.listD A s' s'.heap := by rw [hhp]; exact vx_Zq.moved hW0.alike (hN.kept hS.2.1)
  have h : ∀ w ∈ Bundle.ownAtoms own ic cls names, w.before args s' = true := vx_own hat' (vx_isRefq hU'.1) (vx_isRefq hN'.1) hU'.2.word hN'.2.word
  have hown' : s'.vm.findClass own = some m.cls := by rw [hvm]; exact hown
  have hins : (Cond.instantiable cls 6).before args s' = true := h _ (by simp [Bundle.ownAtoms])
  obtain ⟨vm₁, cX, kX, hfX, hkX, -, -, X₁, st1⟩ := Y.newCold hexec (own := own) (C := cls) (index := ik) (n := 6) hown' hk' hins hini'
    (g := F0 m pc ls rest) rfl (by rw [hb]; exact d0) (Nat.le_refl _) (Nat.le_refl _)
  generalize hT1 : (T.setVm vm₁).pushCell { cls := cX, slots := kX.instanceTypes.map defaultValue, vm := .none } = T1 at X₁ st1
  have hcat : (Value.ref T.heap.size).category = 1 := rfl
  have hcellA : T1.heap[T.heap.size]? = some (freshCell cX kX) := by rw [← hT1]; exact State.heap_pushCell_size _ _
  have d3' : decode c.code (pc + 3) = .ok (.dup, 1) := by rw [hb]; exact d3
  have d4' : decode c.code (pc + 4) = .ok (.ldc is, 2) := by rw [hb]; exact d4
  have hstr' : vk_R own is text sa s' := vk_R.warm hW0 hstr
  obtain ⟨U, hsteps, hrun, hend, hW, hsame, ce, hce, hO⟩ := X₁.ctorThrowS hexec htr (own := own) (cls := cls) (names := names) (ic := ic) hown' hcls hnames h (fun x hx => nomatch hx) hfX hkX hcellA (by rw [hhp, hT]; exact Nat.le_refl _) (msg := .ref sa) rfl
    (g := { method := m, pc := pc + 6, locals := ls, stack := .ref sa :: .ref T.heap.size :: .ref T.heap.size :: rest, locked := none }) rfl hsize rfl rfl (rest := rest) rfl
    (by rw [hb]; exact d6) (by rw [hb]; exact d9) hout hRframes (by simp only [List.map_cons, List.sum_cons, hcat]; omega) hlocks
  obtain ⟨f1, f2⟩ := vx_frame hsame
  rw [hhp] at f1 f2
  have hWs : s.WarmedH U.vm := State.WarmedH.trans hW0 hW
  have hcl : s.vm.findClass cls = some ce.cls := by
    have h9 := hO.cls
    rw [hvm] at h9
    exact h9
  have hall : s.sameButNew ({ U with vm := s.vm } : State) locs mc ms := by
    subst hA
    obtain ⟨e1, e2⟩ := hsame
    rw [State.setFrames_setFrames] at e1
    have h2 : (T.setVm s.vm).sameButNew ({ U with vm := s.vm } : State) [] (0 + 1) (0 + 6) := ⟨e1, e2⟩
    have h3 := X.same.trans h2
    rw [List.append_nil] at h3
    exact h3.mono hc hs
  refine ⟨U, ?_, .threw T.heap.size, hrun, hend, Or.inr ⟨T.heap.size, rfl, cls, ce, locs, hx U hWs.alike f1 (fun q hq => f2 q hq (fun z hz => nomatch hz)), hce, hO.vm, hcl, hWs, hall, hf⟩⟩
  refine st1 _ ?_
  show Steps p.tables e below (T1.setTop { method := m, pc := pc + 3, locals := ls, stack := .ref T.heap.size :: rest, locked := none }) _
  jvm_step X₁.here [X₁.here.top, hexec, d3', Value.category]
  exact X₁.ldcString hexec (own := own) (text := text) (index := is) (a := sa) hown' hstr'.1 hstr'.2
    (g := { method := m, pc := pc + 4, locals := ls, stack := .ref T.heap.size :: .ref T.heap.size :: rest, locked := none }) rfl d4' _ hsteps
/-- 'throw new E("text")', the text by a wide index -/
theorem vx_throwSW {cc : ByteArray} {pc : Nat} (hexec : p.tables.exec = Jvm.exec) (hb : c.code = cc) (hl : l.stackTraces = false) {own cls text : String} {names : List String} {ik is ic mc ms sa : Nat} {A : Nat → Prop}
    (hown : s.vm.findClass own = some m.cls) (hcls : Bundle.fit cls = true) (hnames : ∀ n ∈ names, Bundle.fit n = true)
    (hk : (Cond.classLink own ik cls).before args s = true) (hini : (Cond.initialized cls).before args s = true) (hstr : vk_R own is text sa s) (hat : ∀ w ∈ vx_atS own ic cls names, w.before args s = true)
    (hgood : ∀ w ∈ Cond.classLink own ik cls :: Cond.initialized cls :: vx_atS own ic cls names, vx_ot w = true)
    (hU : vx_Zq Bundle.tN "UNASSIGNED_STACK" Bundle.steD A s s.heap) (hN : vx_Zq Bundle.tN "SUPPRESSED_SENTINEL" Bundle.listD A s s.heap) (hS : va_S A s.heap H locs) (hsize : ls.size = c.maxLocals)
    (d0 : decode cc pc = .ok (.new ik, 3)) (d3 : decode cc (pc + 3) = .ok (.dup, 1)) (d4 : decode cc (pc + 4) = .ok (.ldc_w is, 3)) (d7 : decode cc (pc + 7) = .ok (.invokespecial ic, 3)) (d10 : decode cc (pc + 10) = .ok (.athrow, 1))
    (hout : ∀ x ∈ c.exceptionTable.toList, covers x (pc + 10) = false)
    (hRframes : names.length + 3 < R.frames) (hRlocals : (rest.map fun v => v.category).sum + (13 * (names.length + 1) + 43) ≤ R.locals) (hRcells : cells + 1 ≤ R.cells) (hRslots : slots + 6 ≤ R.slots) (hlocks : meth.locks = false)
    (hx : ∀ t : State, s.vm.Alike t.vm → H.size ≤ t.heap.size → (∀ q : Nat, q < H.size → t.heap[q]? = H[q]?) → XC cls s t)
    (hf : ∀ z ∈ locs, free z.base) (hc : cells + 1 ≤ mc) (hs : slots + 6 ≤ ms) :
    W p l e R s m args below meth c H locs cells slots (vx_MQ below Qc XC args s mc ms free) (F0 m pc ls rest) := by
  intro T hT X
  have htr : e.platform.stackTraces = false := (show e.platform.stackTraces = l.stackTraces by rw [X.admits.platform]).trans hl
  have Y := vx_rebase X (R' := { frames := R.frames, locals := R.locals, cells := 1, slots := 6 }) (Nat.le_refl _) (Nat.le_refl _) hRcells hRslots
  obtain ⟨s', hA⟩ : ∃ z, z = (T.setVm s.vm).setFrames (.invoking m args :: below) := ⟨_, rfl⟩
  rw [← hA] at Y
  have hvm : s'.vm = s.vm := by rw [hA]; rfl
  have hhp : s'.heap = H := by rw [hA]; exact hT
  have hW0 : s.WarmedH s'.vm := by rw [hvm]; exact State.WarmedH.refl s
  have hat' : ∀ w ∈ vx_atS own ic cls names, w.before args s' = true := fun w hw => vx_ot_at hW0 hvm.symm (hgood w (List.mem_cons_of_mem _ (List.mem_cons_of_mem _ hw))) (hat w hw)
  have hk' : (Cond.classLink own ik cls).before args s' = true := vx_ot_at hW0 hvm.symm (hgood _ List.mem_cons_self) hk
  have hini' : (Cond.initialized cls).before args s' = true := vx_ot_at hW0 hvm.symm (hgood _ (List.mem_cons_of_mem _ List.mem_cons_self)) hini
  have hU' : vx_Zq Bundle.tN "UNASSIGNED_STACK" Bundle.steD A s' s'.heap := by rw [hhp]; exact vx_Zq.moved hW0.alike (hU.kept hS.2.1)
  have hN' : vx_Zq Bundle.tN "SUPPRESSED_SENTINEL" Bundle.listD A s' s'.heap := by rw [hhp]; exact vx_Zq.moved hW0.alike (hN.kept hS.2.1)
  have h : ∀ w ∈ Bundle.ownAtoms own ic cls names, w.before args s' = true := vx_own hat' (vx_isRefq hU'.1) (vx_isRefq hN'.1) hU'.2.word hN'.2.word
  have hown' : s'.vm.findClass own = some m.cls := by rw [hvm]; exact hown
  have hins : (Cond.instantiable cls 6).before args s' = true := h _ (by simp [Bundle.ownAtoms])
  obtain ⟨vm₁, cX, kX, hfX, hkX, -, -, X₁, st1⟩ := Y.newCold hexec (own := own) (C := cls) (index := ik) (n := 6) hown' hk' hins hini'
    (g := F0 m pc ls rest) rfl (by rw [hb]; exact d0) (Nat.le_refl _) (Nat.le_refl _)
  generalize hT1 : (T.setVm vm₁).pushCell { cls := cX, slots := kX.instanceTypes.map defaultValue, vm := .none } = T1 at X₁ st1
  have hcat : (Value.ref T.heap.size).category = 1 := rfl
  have hcellA : T1.heap[T.heap.size]? = some (freshCell cX kX) := by rw [← hT1]; exact State.heap_pushCell_size _ _
  have d3' : decode c.code (pc + 3) = .ok (.dup, 1) := by rw [hb]; exact d3
  have d4' : decode c.code (pc + 4) = .ok (.ldc_w is, 3) := by rw [hb]; exact d4
  have hstr' : vk_R own is text sa s' := vk_R.warm hW0 hstr
  obtain ⟨U, hsteps, hrun, hend, hW, hsame, ce, hce, hO⟩ := X₁.ctorThrowS hexec htr (own := own) (cls := cls) (names := names) (ic := ic) hown' hcls hnames h (fun x hx => nomatch hx) hfX hkX hcellA (by rw [hhp, hT]; exact Nat.le_refl _) (msg := .ref sa) rfl
    (g := { method := m, pc := pc + 7, locals := ls, stack := .ref sa :: .ref T.heap.size :: .ref T.heap.size :: rest, locked := none }) rfl hsize rfl rfl (rest := rest) rfl
    (by rw [hb]; exact d7) (by rw [hb]; exact d10) hout hRframes (by simp only [List.map_cons, List.sum_cons, hcat]; omega) hlocks
  obtain ⟨f1, f2⟩ := vx_frame hsame
  rw [hhp] at f1 f2
  have hWs : s.WarmedH U.vm := State.WarmedH.trans hW0 hW
  have hcl : s.vm.findClass cls = some ce.cls := by
    have h9 := hO.cls
    rw [hvm] at h9
    exact h9
  have hall : s.sameButNew ({ U with vm := s.vm } : State) locs mc ms := by
    subst hA
    obtain ⟨e1, e2⟩ := hsame
    rw [State.setFrames_setFrames] at e1
    have h2 : (T.setVm s.vm).sameButNew ({ U with vm := s.vm } : State) [] (0 + 1) (0 + 6) := ⟨e1, e2⟩
    have h3 := X.same.trans h2
    rw [List.append_nil] at h3
    exact h3.mono hc hs
  refine ⟨U, ?_, .threw T.heap.size, hrun, hend, Or.inr ⟨T.heap.size, rfl, cls, ce, locs, hx U hWs.alike f1 (fun q hq => f2 q hq (fun z hz => nomatch hz)), hce, hO.vm, hcl, hWs, hall, hf⟩⟩
  refine st1 _ ?_
  show Steps p.tables e below (T1.setTop { method := m, pc := pc + 3, locals := ls, stack := .ref T.heap.size :: rest, locked := none }) _
  jvm_step X₁.here [X₁.here.top, hexec, d3', Value.category]
  exact X₁.ldcStringW hexec (own := own) (text := text) (index := is) (a := sa) hown' hstr'.1 hstr'.2
    (g := { method := m, pc := pc + 4, locals := ls, stack := .ref T.heap.size :: .ref T.heap.size :: rest, locked := none }) rfl d4' _ hsteps
end Ends
section Bodies
variable {l : Launch}
theorem vx_ofW {y : MethodName} {ws ws' : List Cond} {rm : Room} {Pc : Array Value → State → Prop} {Qc : Array Value → State → Outcome → State → Prop} {XC : String → State → State → Prop} {mc ms : Nat} {free : Addr → Prop} {cc : ByteArray} {maxL : Nat} {ret : Option FieldType}
    (hy : plainName y.cls = true) (hw : ws = Cond.code y cc maxL ret :: ws')
    (body : ∀ p e s m args below meth c s₁, BodyLoose p l y (headSpec ws rm) cc maxL ret e s m args below meth c s₁ → c.maxLocals = maxL → (∀ x ∈ c.exceptionTable.toList, False) → Pc args s →
      W p l e (headSpec ws rm).room s m args below meth c s.heap [] 0 0 (vx_MQ below Qc XC args s mc ms free) (entryFrame m args maxL)) : vx_Met l y ws rm Pc Qc XC mc ms free := by
  refine MetFree.of_bodyS (code := cc) (maxLocals := maxL) (ret := ret) hy ?_ ?_
  · intro args s m h hn
    obtain ⟨meth, c, h1, h2, h3, h4, h5, h6, -, -⟩ := Cond.code_spec hn (atoms_spec (ws := ws) h _ (by rw [hw]; exact List.mem_cons_self))
    exact ⟨meth, c, h1, h2, h3, h4, h5, h6⟩
  · intro p e s m args below meth c s₁ B hml hP _
    have hh0 : s₁.heap = s.heap := by rw [B.state]; rfl
    have ht : ∀ x ∈ c.exceptionTable.toList, False := by
      obtain ⟨meth9, c9, h1, h2, -, -, -, -, h7, -⟩ := Cond.code_spec B.named (atoms_spec (ws := ws) B.pre _ (by rw [hw]; exact List.mem_cons_self))
      cases Option.some.inj (h1.symm.trans B.method)
      cases Option.some.inj (h2.symm.trans (Stand.of_body B).code)
      intro x hx
      rw [Array.isEmpty_iff.mp h7] at hx
      cases hx
    obtain ⟨t, a1, o, b1, b2, b3⟩ := body p e s m args below meth c s₁ B hml ht hP s₁ hh0 (Stand.of_body B)
    exact ⟨t, o, a1, b1, b2, b3⟩
/-- the table of a body with handlers -/
theorem vx_table {p : Program} {x y : MethodName} {S : Spec} {cc bytes : ByteArray} {maxL maxL' : Nat} {ret ret' : Option FieldType} {e : Env} {s s₁ : State} {m : MethodId} {args : Array Value} {below : List Frame} {meth : Method} {c : Code} {hh : List (Nat × Nat × Nat × Nat)}
    (B : BodyLoose p l y S cc maxL ret e s m args below meth c s₁) (h : (Cond.codeWith y bytes maxL' ret' hh).before args s = true) : c.exceptionTable.toList = tableOf hh := by
  obtain ⟨m9, meth9, c9, hn9, h1, h2, -, -, h6, -⟩ := Cond.codeWith_spec h
  cases Option.some.inj (hn9.symm.trans B.named)
  cases Option.some.inj (h1.symm.trans B.method)
  cases Option.some.inj (h2.symm.trans (Stand.of_body B).code)
  rw [← h6, table_eq]
end Bodies
end VXA
/-! ===== END ===== -/
/-! ===== BEGIN a static call of a method with an exception table ===== -/
section VXS
variable {p : Program} {l : Launch} {e : Env} {R : Room} {s : State} {m : MethodId} {args : Array Value} {below : List Frame} {meth : Method} {c : Code} {T : State} {H : Heap} {locs : List Loc} {cells slots : Nat}
abbrev vx_CSW (R : Room) (s : State) (args : Array Value) (own : String) (index : Nat) (y : MethodName) (bytes : ByteArray) (maxL : Nat) (ret : Option FieldType) (hh : List (Nat × Nat × Nat × Nat)) (ws : List Cond) (rm : Room) (mc ms n : Nat) : Prop :=
  (rm.cells = mc ∧ rm.slots = ms ∧ rm.frames + 1 ≤ R.frames ∧ 8 + (maxL + 11) + rm.locals ≤ R.locals ∧ (∀ w ∈ ws, ∀ (a' : Array Value) (U : State), s.WarmedH U.vm → w.before a' U = true) ∧ Cond.codeWith y bytes maxL ret hh ∈ ws) ∧
  (Cond.codeWith y bytes maxL ret hh).before args s = true ∧ (Cond.initialized y.cls).before args s = true ∧ (y.cls ≠ "java/lang/invoke/MethodHandle" ∧ y.cls ≠ "java/lang/invoke/VarHandle") ∧
  (∀ sig, parseMethodDescriptor y.desc = some sig → n = sig.parameters.length) ∧ (Cond.methodLink own index y).before args s = true ∧ (Cond.static y).before args s = true
theorem vx_cwSW {own : String} {index maxL mc ms : Nat} {y : MethodName} {bytes : ByteArray} {ret : Option FieldType} {hh : List (Nat × Nat × Nat × Nat)} {Ts ws ws' : List Cond} {rm : Room} (n : Nat) (ht : ∀ w ∈ Ts, w.before args s = true) (hT : GoodIn Ts (va_wsS own index y ws)) (hw : ws = Cond.codeWith y bytes maxL ret hh :: ws') (hrc : rm.cells = mc) (hrs : rm.slots = ms)
    (hd : y.cls ≠ "java/lang/invoke/MethodHandle" ∧ y.cls ≠ "java/lang/invoke/VarHandle" ∧ (parseMethodDescriptor y.desc).map (fun d => d.parameters.length) = some n) (hR : rm.frames + 1 ≤ R.frames ∧ 8 + (maxL + 11) + rm.locals ≤ R.locals) :
    vx_CSW R s args own index y bytes maxL ret hh ws rm mc ms n := by
  have ok : ∀ w ∈ va_wsS own index y ws, w.before args s = true := fun w h => ht w (hT w h).1
  have hG : GoodIn Ts ws := fun w h => hT w (by unfold va_wsS; exact List.mem_append_right _ h)
  have hc : Cond.codeWith y bytes maxL ret hh ∈ ws := by rw [hw]; exact List.mem_cons_self
  refine ⟨⟨hrc, hrs, hR.1, hR.2, pay_in ht hG, hc⟩, ht _ (hG _ hc).1, ok _ (by simp [va_wsS]), ⟨hd.1, hd.2.1⟩, fun sig h => ?_, ok _ (by simp [va_wsS]), ok _ (by simp [va_wsS])⟩
  have h2 := hd.2.2
  rw [h] at h2
  exact (Option.some.inj h2).symm
theorem vx_callSW (X : Stand p l e R s m args below meth c T locs cells slots) (hexec : p.tables.exec = Jvm.exec) {own : String} {index : Nat} {y : MethodName} {bytes : ByteArray} {maxL : Nat} {ret : Option FieldType} {hh : List (Nat × Nat × Nat × Nat)}
    (hown : s.vm.findClass own = some m.cls) (hlink : (Cond.methodLink own index y).before args s = true) (hstat : (Cond.static y).before args s = true) (hinit : (Cond.initialized y.cls).before args s = true)
    (hcode : (Cond.codeWith y bytes maxL ret hh).before args s = true) (hy : y.cls ≠ "java/lang/invoke/MethodHandle" ∧ y.cls ≠ "java/lang/invoke/VarHandle")
    {W9 : Nat} {Pre : Pt → Array Value → Prop} {Post : Pt → Array Value → Option Value → Pt → Prop} (hK : Back l R p e below s args y 3 W9 Pre Post)
    {g : JFrame} (hg : g.method = m) (hsize : g.locals.size = c.maxLocals) {argsL rest : List Value} (hlen : ∀ sig, parseMethodDescriptor y.desc = some sig → argsL.length = sig.parameters.length)
    (hstack : g.stack = argsL.reverse ++ rest) (hW : 2 * g.monitorRoom + (rest.map fun v => v.category).sum ≤ W9) (hdg : decode c.code g.pc = .ok (.invokestatic index, 3))
    (hpre : ∀ vm₁, s.WarmedH vm₁ → Pre ⟨T.setVm vm₁, locs, cells, slots⟩ argsL.toArray) :
    ∃ (v : Option Value) (vm₁ : Vm) (B : Pt), s.WarmedH vm₁ ∧ Stand p l e R s m args below meth c B.U B.locs B.cells B.slots ∧ Post ⟨T.setVm vm₁, locs, cells, slots⟩ argsL.toArray v B ∧
      ∀ target, Steps p.tables e below (B.U.setTop { g with pc := g.pc + 3, stack := v.toList ++ rest }) target → Steps p.tables e below (T.setTop g) target := by
  obtain ⟨mk, methM, cM, hnamed, hmethM, -, -, -, -, -, -, hsigM⟩ := Cond.codeWith_spec hcode
  have hstatic : methM.isStatic = true := Cond.static_spec hnamed hmethM hstat
  obtain ⟨kP, hkP, -⟩ := className_of_methodNamed hnamed
  have hinitP : kP.init = .initialized := Cond.initialized_spec (findClass_of_methodNamed hnamed) hkP hinit
  obtain ⟨vm₁, X₁, hstep₁⟩ := X.invokestatic hexec hown hlink hnamed hmethM hstatic hkP hinitP hy (g := g) hg (argsL := argsL) (rest := rest) (hlen _ hsigM) hstack hdg
  obtain ⟨v, B, X', hpost, hsteps⟩ := hK m meth c ⟨T.setVm vm₁, locs, cells, slots⟩ { g with stack := rest } (.invokestatic index) mk argsL.toArray X₁ hg hsize hdg hW (X₁.named hnamed) (hpre vm₁ X₁.warmed)
  exact ⟨v, vm₁, B, X₁.warmed, X', hpost, fun target h => hstep₁ _ fun acts => by rw [doInvoke_state]; exact hsteps.trans h⟩
theorem vx_runSW {y : MethodName} {bytes cc : ByteArray} {maxL nL mc ms n index : Nat} {ret : Option FieldType} {hh : List (Nat × Nat × Nat × Nat)} {ws : List Cond} {rm : Room} {Pc : Array Value → State → Prop} {Qc : Array Value → State → Outcome → State → Prop} {free : Addr → Prop} {Ts : List Cond} {own : String} {As rest : List Value} {g : JFrame}
    (S : CallFix p m c cc nL s args Ts own) (hM : Met l y ws rm Pc Qc mc ms free) (cw : vx_CSW R s args own index y bytes maxL ret hh ws rm mc ms n) (hp : PreS s H Pc As)
    (hg : g.method = m) (hn : As.length = n) (hsize : g.locals.size = nL) (hstack : g.stack = As.reverse ++ rest) (hW : 2 * g.monitorRoom + (rest.map fun v => v.category).sum ≤ 8) (hdg : decode cc g.pc = .ok (.invokestatic index, 3)) (hf : cells + mc ≤ R.cells ∧ slots + ms ≤ R.slots) :
    va_Run p l e R s m args below meth c H locs cells slots mc ms g rest (Qc As.toArray) (free) := by
  obtain ⟨⟨hrc, hrs, hfr, hlo, hws, hcw⟩, hcode, hini, hy, hlen, hl, hstt⟩ := cw
  have hK : Back l R p e below s args y 3 8 (PreOf R mc ms Pc) (PostOf Qc mc ms free) := va_backW (hh := hh) (bytes := bytes) (maxL := maxL) (ret := ret) hM hp.1 hrc hrs hfr hlo hws hcw (fun a' U hW => word_at hW (Or.inl (by first | rfl | simp [Cond.onTables, Cond.keeps, Cond.steady])) hini)
  obtain ⟨hx, hb, hml, ho, -⟩ := S
  intro T hT X
  obtain ⟨v, vm₁, ⟨U', l2, c2, s2⟩, hW₁, X', ⟨g', mk, t, L, e1, e2, hq, h1, hL, h2, h3⟩, st⟩ := vx_callSW X hx (hh := hh) (bytes := bytes) (maxL := maxL) (ret := ret) ho hl hstt hini hcode hy hK hg (hsize.trans hml.symm) (argsL := As) (rest := rest) (fun sig h => hn.trans (hlen sig h)) hstack hW (by rw [hb]; exact hdg)
    (fun vm₁ hW₁ => ⟨hf.1, hf.2, hp.2 (T.setVm vm₁) hT hW₁⟩)
  dsimp only [Pt.U, Pt.locs, Pt.cells, Pt.slots] at X' e1 e2 h1 h2 h3 st
  subst h1; subst h2; subst h3
  exact ⟨v, (T.setVm vm₁).calling g' mk As.toArray, t, U', L, hT, X', hL, e1, e2, hq, st⟩
/-- not caught here, past rows that name other classes: it goes on to the caller -/
theorem vx_outP {p : Program} {l : Launch} {e : Env} {R : Room} {s : State} {m : MethodId} {args : Array Value} {below : List Frame} {meth : Method} {c : Code} {H : Heap} {locs : List Loc} {cells slots : Nat} {free : Addr → Prop} {ls : Array Slot} {rest : List Value} {Qc : Array Value → State → Outcome → State → Prop} {XC : String → State → State → Prop}
    {pc : Nat} {own E : String} {ce : Cell} {q : Addr} {mc ms : Nat} (hown : s.vm.findClass own = some m.cls) (hlocks : meth.locks = false)
    (hpass : ∀ z ∈ c.exceptionTable.toList, covers z pc = false ∨ (z.catchType ≠ 0 ∧ ∃ nm : String, (Cond.classLink own z.catchType nm).before args s = true ∧ va_Nc E nm s)) (hcell : H[q]? = some ce) (hv : ce.vm = .none) (hcl : s.vm.findClass E = some ce.cls)
    (hx : ∀ t : State, t.heap = H → s.vm.Alike t.vm → XC E s t) (hf : ∀ z ∈ locs, free z.base) (hc : cells ≤ mc) (hs : slots ≤ ms) :
    vx_W p l e R s m args below meth c H locs cells slots (vx_MQ below Qc XC args s mc ms free) (F0 m pc ls rest) q := by
  intro T hT X
  have hpl : e.platform.magicAccessors = ({} : Platform).magicAccessors := by rw [X.admits.platform]
  obtain ⟨vm', hW', X', st⟩ := X.outThrough hlocks q (g := F0 m pc ls rest) rfl rfl rfl (cell := ce) (by rw [hT]; exact hcell) (by rw [hv]; rfl)
    (by obtain ⟨k9, h9, -⟩ := Vm.findClass_spec hcl; exact ⟨k9, h9⟩) (fun z hz => by
      rcases hpass z hz with h | ⟨hz0, nm, hl1, hn1⟩
      · exact Or.inl h
      · obtain ⟨c6, hc6, hcl6⟩ := Cond.classLink_spec hown hl1 e.platform hpl
        obtain ⟨a8, b8, h1, h2, h3⟩ := hn1
        cases Option.some.inj (h1.symm.trans hcl)
        cases Option.some.inj (h2.symm.trans hc6)
        exact Or.inr ⟨hz0, _, hcl6, h3⟩)
  obtain ⟨g₀, hfr⟩ := X'.frames_eq
  have hcell9 : ((T.setVm vm').setFrames (.throwing q :: below)).heap[q]? = some ce := by
    show T.heap[q]? = some ce
    rw [hT]; exact hcell
  have hend : Ended ((T.setVm vm').setFrames (.throwing q :: below)) below (.threw q) := State.frames_setFrames _ (State.cur_lt_of_frames hfr)
  refine ⟨(T.setVm vm').setFrames (.throwing q :: below), ?_, .threw q, X'.here.running, hend, Or.inr ⟨q, rfl, E, ce, locs, hx _ hT (X'.ends _).1.alike, hcell9, hv, hcl, (X'.ends _).1, (X'.ends _).2.mono hc hs, hf⟩⟩
  rw [X.pushThrowing_eq]
  exact st
/-- a thing of a world lies in the heap -/
theorem vx_lt {D : va_G} {cl : List vw_C} {ws : va_W} {H1 : Heap} (h : va_P D cl ws H1) {k : Nat} {q : Nat × va_E} (hk : ws[k]? = some q) : q.1 < H1.size := (h k q hk).lt
end VXS
/-! ===== END ===== -/
/-! ===== BEGIN methods with a table of their own: called by a name, returning or throwing ===== -/
section VXH
/-! vx_backW, vx_callVX, vx_callSX, vx_callVW, vx_runVW, vx_runVX, vx_runSX, vx_ofWH follow the same proofs as their sisters above (Free/Laws.lean, Shelf42/LK1.lean); vx_outP calls Shelf42/NT130.lean (outThrough). -/
section
variable {l : Launch} {R : Room} {p : Program} {e : Env} {below : List Frame} {s : State} {sargs : Array Value} {y : MethodName} {len W9 : Nat}
theorem vx_backW {ws : List Cond} {rm : Room} {Pc : Array Value → State → Prop} {Qc : Array Value → State → Outcome → State → Prop} {XC : String → State → State → Prop} {mc ms : Nat} {free : Addr → Prop} {bytes : ByteArray} {maxL : Nat} {ret : Option FieldType} {hh : List (Nat × Nat × Nat × Nat)}
    (hM : vx_Met l y ws rm Pc Qc XC mc ms free) (hblind : FrameBlind Pc) (hrc : rm.cells = mc) (hrs : rm.slots = ms)
    (hframes : rm.frames + 1 ≤ R.frames) (hlocals : W9 + (maxL + 11) + rm.locals ≤ R.locals)
    (hws : ∀ w ∈ ws, ∀ a' U, s.WarmedH U.vm → w.before a' U = true) (hcode : Cond.codeWith y bytes maxL ret hh ∈ ws) (hinit : ∀ a' U, s.WarmedH U.vm → (Cond.initialized y.cls).before a' U = true) :
    vx_Back l R p e below s sargs y len W9 (PreOf R mc ms Pc) (PostOf Qc mc ms free) (vx_Post XC mc ms free) := by
  intro m meth c A g ig mk a X hg hsize hdg hW hn hp
  have h1 : (headSpec ws rm).pre.before a A.U = true := atoms_intro fun w hw => hws w hw _ _ X.warmed
  have h2 : (Cond.codeWith y bytes maxL ret hh).before a A.U = true := hws _ hcode _ _ X.warmed
  have h3 : (Cond.initialized y.cls).before a A.U = true := hinit _ _ X.warmed
  have h4 : A.cells + (headSpec ws rm).room.cells ≤ R.cells := by rw [show (headSpec ws rm).room.cells = mc from hrc]; exact hp.1
  have h5 : A.slots + (headSpec ws rm).room.slots ≤ R.slots := by rw [show (headSpec ws rm).room.slots = ms from hrs]; exact hp.2.1
  have hPc : Pc a (A.U.calling g mk a) := hblind _ _ _ _ hp.2.2
  obtain ⟨U, Ls, c0, s0⟩ := A
  dsimp only [Pt.U, Pt.locs, Pt.cells, Pt.slots] at h1 h2 h3 h4 h5 X hn hPc ⊢
  obtain ⟨m9, methY, cY, hn9, hmY, hcY, -, hlY, -⟩ := Cond.codeWith_spec h2
  cases Option.some.inj (hn9.symm.trans hn)
  obtain ⟨kY, hkY, -⟩ := className_of_methodNamed hn
  have hinitY : kY.init = .initialized := Cond.initialized_spec (findClass_of_methodNamed hn) hkY h3
  have h : At U g.method c below := by rw [hg]; exact X.here
  have hlocals9 : W9 + (maxL + 11) + (headSpec ws rm).room.locals ≤ R.locals := hlocals
  have happ : (headSpec ws rm).appliesLoose y e.platform (U.calling g mk a) = true :=
    Spec.appliesLoose_calling (g := g) h hdg hn hkY hinitY
      (X.room_calling (g := g) (R' := (headSpec ws rm).room) hsize hmY hcY hframes (by rw [hlY]; omega) h4 h5) h1
  obtain ⟨mid, hmid⟩ := h.above
  have hfr : (U.setTop g).frames = (.java g :: mid) ++ below := by rw [State.frames_setTop' g h.top, hmid]; rfl
  obtain ⟨o, s₂, hsteps, -, hend, hq⟩ := Steps.callFree hM p X.admits X.cas X.clock (acts := []) hfr happ hPc trivial
  have hq' : vx_Q Qc XC mc ms free a (U.calling g mk a) o s₂ := hq
  rw [State.frames_setTop' g h.top] at hend
  obtain ⟨g₀, hg0⟩ := Option.isSome_iff_exists.mp h.top
  obtain ⟨r, hr⟩ := State.topJava?_eq_some.mp hg0
  have hr' : (({ U with heap := s₂.heap, slotsUsed := s₂.slotsUsed } : State).setVm s₂.vm).frames = .java g₀ :: r := hr
  rcases hq' with ⟨hqc, L, hfe, hL⟩ | ⟨q, rfl, E, ce, L, hx, hce, hcv, hcl, hW₂, hsm, hL⟩
  · obtain ⟨⟨v, rfl⟩, hW₂, e2, q2, q3, q4, q5, q6⟩ := id hfe
    have e3 : s₂ = ({ (U.calling g mk a).setFrames s₂.frames with heap := s₂.heap, slotsUsed := s₂.slotsUsed } : State).setVm s₂.vm := by
      have : s₂ = ({ s₂ with vm := (U.calling g mk a).vm } : State).setVm s₂.vm := rfl
      rw [e2] at this
      exact this
    obtain ⟨c₂, i₂, len₂, hc₂, hd₂, hf₂⟩ := hend
    have hW' : U.WarmedH s₂.vm := hW₂
    have hcc : c₂ = c := by
      have h1 : s₂.code? g.method = U.code? g.method := by
        rw [State.code?_eq, State.code?_eq, hW'.alike.method?]
      exact Option.some.inj (hc₂.symm.trans (h1.trans h.code))
    subst hcc
    have hlen : len₂ = len := by rw [hdg] at hd₂; cases hd₂; rfl
    subst hlen
    have hs₂ : s₂ = (({ U with heap := s₂.heap, slotsUsed := s₂.slotsUsed } : State).setVm s₂.vm).setTop { g with pc := g.pc + len₂, stack := v.toList ++ g.stack } := by
      refine e3.trans ?_
      rw [hf₂, State.calling_eq h.top, State.setFrames_setFrames, State.setTop_of_frames _ hr', hr]
      rfl
    have hsame : U.sameButNew ({ U with heap := s₂.heap, slotsUsed := s₂.slotsUsed } : State) L mc ms := by
      refine ⟨?_, q2, q3, q4, q5, q6⟩
      obtain ⟨t, ht, -⟩ := State.frames_cons hr
      show ({ U with heap := s₂.heap, slotsUsed := s₂.slotsUsed } : State) = { U.setFrames U.frames with heap := s₂.heap, slotsUsed := s₂.slotsUsed }
      rw [State.setFrames_self ht]
    subst hg
    refine Or.inl ⟨v, ⟨(({ U with heap := s₂.heap, slotsUsed := s₂.slotsUsed } : State).setVm s₂.vm), Ls ++ L, c0 + mc, s0 + ms⟩,
      ⟨X.admits, X.cas, X.clock, X.frames, X.room, X.hears, X.method, X.code, (X.here.setHeapUsed s₂.heap s₂.slotsUsed).setVm hW'.alike, X.tail, State.WarmedH.trans X.warmed hW', X.limits, X.bytes, X.same.trans (hsame.setVm s.vm)⟩,
      ⟨g, mk, s₂, L, rfl, rfl, hqc, rfl, hL, rfl, rfl⟩, ?_⟩
    show Steps p.tables e below _ ((({ U with heap := s₂.heap, slotsUsed := s₂.slotsUsed } : State).setVm s₂.vm).setTop { g with pc := g.pc + len₂, stack := v.toList ++ g.stack })
    rw [← hs₂]
    exact hsteps
  · obtain ⟨e2, q2, q3, q4, q5, q6⟩ := id hsm
    have e3 : s₂ = ({ (U.calling g mk a).setFrames s₂.frames with heap := s₂.heap, slotsUsed := s₂.slotsUsed } : State).setVm s₂.vm := by
      have : s₂ = ({ s₂ with vm := (U.calling g mk a).vm } : State).setVm s₂.vm := rfl
      rw [e2] at this
      exact this
    have hf₂ : s₂.frames = .throwing q :: .java g :: U.frames.tail := hend
    have hW' : U.WarmedH s₂.vm := hW₂
    have hs₂ : s₂ = ((({ U with heap := s₂.heap, slotsUsed := s₂.slotsUsed } : State).setVm s₂.vm).setTop g).pushFrame (.throwing q) := by
      refine e3.trans ?_
      rw [hf₂, State.calling_eq h.top, State.setFrames_setFrames, State.pushFrame, State.frames_setTop _ hr', State.setTop_of_frames _ hr', State.setFrames_setFrames, hr]
      rfl
    have hsame : U.sameButNew ({ U with heap := s₂.heap, slotsUsed := s₂.slotsUsed } : State) L mc ms := by
      refine ⟨?_, q2, q3, q4, q5, q6⟩
      obtain ⟨t, ht, -⟩ := State.frames_cons hr
      show ({ U with heap := s₂.heap, slotsUsed := s₂.slotsUsed } : State) = { U.setFrames U.frames with heap := s₂.heap, slotsUsed := s₂.slotsUsed }
      rw [State.setFrames_self ht]
    subst hg
    refine Or.inr ⟨q, ⟨(({ U with heap := s₂.heap, slotsUsed := s₂.slotsUsed } : State).setVm s₂.vm), Ls ++ L, c0 + mc, s0 + ms⟩,
      ⟨X.admits, X.cas, X.clock, X.frames, X.room, X.hears, X.method, X.code, (X.here.setHeapUsed s₂.heap s₂.slotsUsed).setVm hW'.alike, X.tail, State.WarmedH.trans X.warmed hW', X.limits, X.bytes, X.same.trans (hsame.setVm s.vm)⟩,
      ⟨g, mk, s₂, L, E, ce, rfl, rfl, hx, hce, hcv, hcl, rfl, hL, rfl, rfl⟩, ?_⟩
    show Steps p.tables e below _ (((({ U with heap := s₂.heap, slotsUsed := s₂.slotsUsed } : State).setVm s₂.vm).setTop g).pushFrame (.throwing q))
    rw [← hs₂]
    exact hsteps
end
variable {p : Program} {l : Launch} {e : Env} {R : Room} {s : State} {m : MethodId} {args : Array Value} {below : List Frame} {meth : Method} {c : Code} {T : State} {H : Heap} {locs : List Loc} {cells slots : Nat}
theorem vx_callVX (X : Stand p l e R s m args below meth c T locs cells slots) (hexec : p.tables.exec = Jvm.exec) {own C : String} {index : Nat} {y : MethodName} {bytes : ByteArray} {maxL : Nat} {ret : Option FieldType} {hh : List (Nat × Nat × Nat × Nat)}
    (hown : s.vm.findClass own = some m.cls) (hlink : (Cond.methodLink own index y).before args s = true) (hinst : (Cond.instanceMethod y).before args s = true) (hsel : (Cond.selects C y y).before args s = true)
    (hcode : (Cond.codeWith y bytes maxL ret hh).before args s = true) (hy : y.cls ≠ "java/lang/invoke/MethodHandle" ∧ y.cls ≠ "java/lang/invoke/VarHandle")
    {W9 : Nat} {Pre : Pt → Array Value → Prop} {Post : Pt → Array Value → Option Value → Pt → Prop} {PostX : Pt → Array Value → Addr → Pt → Prop} (hK : vx_Back l R p e below s args y 3 W9 Pre Post PostX)
    {b : Addr} {cellB : Cell} (hcell : T.heap[b]? = some cellB) (hobj : cellB.vm.isStatics = false) (hcls : s.vm.findClass C = some cellB.cls)
    {g : JFrame} (hg : g.method = m) (hsize : g.locals.size = c.maxLocals) {argsL rest : List Value} (hlen : ∀ sig, parseMethodDescriptor y.desc = some sig → argsL.length = sig.parameters.length)
    (hstack : g.stack = argsL.reverse ++ .ref b :: rest) (hW : 2 * g.monitorRoom + (rest.map fun v => v.category).sum ≤ W9) (hdg : decode c.code g.pc = .ok (.invokevirtual index, 3))
    (hpre : ∀ vm₁, s.WarmedH vm₁ → Pre ⟨T.setVm vm₁, locs, cells, slots⟩ (Value.ref b :: argsL).toArray) :
    (∃ (v : Option Value) (vm₁ : Vm) (B : Pt), s.WarmedH vm₁ ∧ Stand p l e R s m args below meth c B.U B.locs B.cells B.slots ∧ Post ⟨T.setVm vm₁, locs, cells, slots⟩ (Value.ref b :: argsL).toArray v B ∧
      ∀ target, Steps p.tables e below (B.U.setTop { g with pc := g.pc + 3, stack := v.toList ++ rest }) target → Steps p.tables e below (T.setTop g) target) ∨
    (∃ (q : Addr) (vm₁ : Vm) (B : Pt), s.WarmedH vm₁ ∧ Stand p l e R s m args below meth c B.U B.locs B.cells B.slots ∧ PostX ⟨T.setVm vm₁, locs, cells, slots⟩ (Value.ref b :: argsL).toArray q B ∧
      Steps p.tables e below (T.setTop g) ((B.U.setTop { g with stack := rest }).pushFrame (.throwing q))) := by
  obtain ⟨mk, methM, hnamed, hmethM, hstM, habM⟩ := Cond.instanceMethod_spec hinst
  obtain ⟨m8, methM', cM, hn8, hmethM', -, -, -, -, -, -, hsigM⟩ := Cond.codeWith_spec hcode
  cases Option.some.inj (hn8.symm.trans hnamed)
  cases hmethM.symm.trans hmethM'
  obtain ⟨c2, r2, m2, q1, q2, q3, q4, kP, hkP, hkPi⟩ := Cond.selects_spec hsel
  cases hcls.symm.trans q1
  cases (State.methodFound?_of_named hnamed hy).symm.trans q2
  cases hnamed.symm.trans q3
  have hselP : selectMethod e.platform s.vm cellB.cls mk = .method mk := by rw [Launch.admits_selectMethod X.admits]; exact q4
  obtain ⟨vm₁, X₁, hstep₁⟩ := X.invokevirtual hexec hown hlink hnamed hmethM hstM hkP hkPi hy (a := b) (cell := cellB) hcell
    (fun z h => by rw [h] at hobj; cases hobj) hselP hmethM habM hkP hkPi (g := g) hg (argsL := argsL) (rest := rest) (hlen _ hsigM) hstack hdg
  rcases hK m meth c ⟨T.setVm vm₁, locs, cells, slots⟩ { g with stack := rest } (.invokevirtual index) mk (Value.ref b :: argsL).toArray X₁ hg hsize hdg hW (X₁.named hnamed) (hpre vm₁ X₁.warmed) with ⟨v, B, X', hpost, hsteps⟩ | ⟨q, B, X', hpost, hsteps⟩
  · exact Or.inl ⟨v, vm₁, B, X₁.warmed, X', hpost, fun target h => hstep₁ _ fun acts => by rw [doInvoke_state]; exact hsteps.trans h⟩
  · exact Or.inr ⟨q, vm₁, B, X₁.warmed, X', hpost, hstep₁ _ fun acts => by rw [doInvoke_state]; exact hsteps⟩
theorem vx_callSX (X : Stand p l e R s m args below meth c T locs cells slots) (hexec : p.tables.exec = Jvm.exec) {own : String} {index : Nat} {y : MethodName} {bytes : ByteArray} {maxL : Nat} {ret : Option FieldType} {hh : List (Nat × Nat × Nat × Nat)}
    (hown : s.vm.findClass own = some m.cls) (hlink : (Cond.methodLink own index y).before args s = true) (hstat : (Cond.static y).before args s = true) (hinit : (Cond.initialized y.cls).before args s = true)
    (hcode : (Cond.codeWith y bytes maxL ret hh).before args s = true) (hy : y.cls ≠ "java/lang/invoke/MethodHandle" ∧ y.cls ≠ "java/lang/invoke/VarHandle")
    {W9 : Nat} {Pre : Pt → Array Value → Prop} {Post : Pt → Array Value → Option Value → Pt → Prop} {PostX : Pt → Array Value → Addr → Pt → Prop} (hK : vx_Back l R p e below s args y 3 W9 Pre Post PostX)
    {g : JFrame} (hg : g.method = m) (hsize : g.locals.size = c.maxLocals) {argsL rest : List Value} (hlen : ∀ sig, parseMethodDescriptor y.desc = some sig → argsL.length = sig.parameters.length)
    (hstack : g.stack = argsL.reverse ++ rest) (hW : 2 * g.monitorRoom + (rest.map fun v => v.category).sum ≤ W9) (hdg : decode c.code g.pc = .ok (.invokestatic index, 3))
    (hpre : ∀ vm₁, s.WarmedH vm₁ → Pre ⟨T.setVm vm₁, locs, cells, slots⟩ argsL.toArray) :
    (∃ (v : Option Value) (vm₁ : Vm) (B : Pt), s.WarmedH vm₁ ∧ Stand p l e R s m args below meth c B.U B.locs B.cells B.slots ∧ Post ⟨T.setVm vm₁, locs, cells, slots⟩ argsL.toArray v B ∧
      ∀ target, Steps p.tables e below (B.U.setTop { g with pc := g.pc + 3, stack := v.toList ++ rest }) target → Steps p.tables e below (T.setTop g) target) ∨
    (∃ (q : Addr) (vm₁ : Vm) (B : Pt), s.WarmedH vm₁ ∧ Stand p l e R s m args below meth c B.U B.locs B.cells B.slots ∧ PostX ⟨T.setVm vm₁, locs, cells, slots⟩ argsL.toArray q B ∧
      Steps p.tables e below (T.setTop g) ((B.U.setTop { g with stack := rest }).pushFrame (.throwing q))) := by
  obtain ⟨mk, methM, cM, hnamed, hmethM, -, -, -, -, -, -, hsigM⟩ := Cond.codeWith_spec hcode
  have hstatic : methM.isStatic = true := Cond.static_spec hnamed hmethM hstat
  obtain ⟨kP, hkP, -⟩ := className_of_methodNamed hnamed
  have hinitP : kP.init = .initialized := Cond.initialized_spec (findClass_of_methodNamed hnamed) hkP hinit
  obtain ⟨vm₁, X₁, hstep₁⟩ := X.invokestatic hexec hown hlink hnamed hmethM hstatic hkP hinitP hy (g := g) hg (argsL := argsL) (rest := rest) (hlen _ hsigM) hstack hdg
  rcases hK m meth c ⟨T.setVm vm₁, locs, cells, slots⟩ { g with stack := rest } (.invokestatic index) mk argsL.toArray X₁ hg hsize hdg hW (X₁.named hnamed) (hpre vm₁ X₁.warmed) with ⟨v, B, X', hpost, hsteps⟩ | ⟨q, B, X', hpost, hsteps⟩
  · exact Or.inl ⟨v, vm₁, B, X₁.warmed, X', hpost, fun target h => hstep₁ _ fun acts => by rw [doInvoke_state]; exact hsteps.trans h⟩
  · exact Or.inr ⟨q, vm₁, B, X₁.warmed, X', hpost, hstep₁ _ fun acts => by rw [doInvoke_state]; exact hsteps⟩
theorem vx_callVW (X : Stand p l e R s m args below meth c T locs cells slots) (hexec : p.tables.exec = Jvm.exec) {own C : String} {index : Nat} {y : MethodName} {bytes : ByteArray} {maxL : Nat} {ret : Option FieldType} {hh : List (Nat × Nat × Nat × Nat)}
    (hown : s.vm.findClass own = some m.cls) (hlink : (Cond.methodLink own index y).before args s = true) (hinst : (Cond.instanceMethod y).before args s = true) (hsel : (Cond.selects C y y).before args s = true)
    (hcode : (Cond.codeWith y bytes maxL ret hh).before args s = true) (hy : y.cls ≠ "java/lang/invoke/MethodHandle" ∧ y.cls ≠ "java/lang/invoke/VarHandle")
    {W9 : Nat} {Pre : Pt → Array Value → Prop} {Post : Pt → Array Value → Option Value → Pt → Prop} (hK : Back l R p e below s args y 3 W9 Pre Post)
    {b : Addr} {cellB : Cell} (hcell : T.heap[b]? = some cellB) (hobj : cellB.vm.isStatics = false) (hcls : s.vm.findClass C = some cellB.cls)
    {g : JFrame} (hg : g.method = m) (hsize : g.locals.size = c.maxLocals) {argsL rest : List Value} (hlen : ∀ sig, parseMethodDescriptor y.desc = some sig → argsL.length = sig.parameters.length)
    (hstack : g.stack = argsL.reverse ++ .ref b :: rest) (hW : 2 * g.monitorRoom + (rest.map fun v => v.category).sum ≤ W9) (hdg : decode c.code g.pc = .ok (.invokevirtual index, 3))
    (hpre : ∀ vm₁, s.WarmedH vm₁ → Pre ⟨T.setVm vm₁, locs, cells, slots⟩ (Value.ref b :: argsL).toArray) :
    ∃ (v : Option Value) (vm₁ : Vm) (B : Pt), s.WarmedH vm₁ ∧ Stand p l e R s m args below meth c B.U B.locs B.cells B.slots ∧ Post ⟨T.setVm vm₁, locs, cells, slots⟩ (Value.ref b :: argsL).toArray v B ∧
      ∀ target, Steps p.tables e below (B.U.setTop { g with pc := g.pc + 3, stack := v.toList ++ rest }) target → Steps p.tables e below (T.setTop g) target := by
  obtain ⟨mk, methM, hnamed, hmethM, hstM, habM⟩ := Cond.instanceMethod_spec hinst
  obtain ⟨m8, methM', cM, hn8, hmethM', -, -, -, -, -, -, hsigM⟩ := Cond.codeWith_spec hcode
  cases Option.some.inj (hn8.symm.trans hnamed)
  cases hmethM.symm.trans hmethM'
  obtain ⟨c2, r2, m2, q1, q2, q3, q4, kP, hkP, hkPi⟩ := Cond.selects_spec hsel
  cases hcls.symm.trans q1
  cases (State.methodFound?_of_named hnamed hy).symm.trans q2
  cases hnamed.symm.trans q3
  have hselP : selectMethod e.platform s.vm cellB.cls mk = .method mk := by rw [Launch.admits_selectMethod X.admits]; exact q4
  obtain ⟨vm₁, X₁, hstep₁⟩ := X.invokevirtual hexec hown hlink hnamed hmethM hstM hkP hkPi hy (a := b) (cell := cellB) hcell
    (fun z h => by rw [h] at hobj; cases hobj) hselP hmethM habM hkP hkPi (g := g) hg (argsL := argsL) (rest := rest) (hlen _ hsigM) hstack hdg
  obtain ⟨v, B, X', hpost, hsteps⟩ := hK m meth c ⟨T.setVm vm₁, locs, cells, slots⟩ { g with stack := rest } (.invokevirtual index) mk (Value.ref b :: argsL).toArray X₁ hg hsize hdg hW (X₁.named hnamed) (hpre vm₁ X₁.warmed)
  exact ⟨v, vm₁, B, X₁.warmed, X', hpost, fun target h => hstep₁ _ fun acts => by rw [doInvoke_state]; exact hsteps.trans h⟩
abbrev vx_CVW (R : Room) (s : State) (args : Array Value) (own C : String) (index : Nat) (y : MethodName) (bytes : ByteArray) (maxL : Nat) (ret : Option FieldType) (hh : List (Nat × Nat × Nat × Nat)) (ws : List Cond) (rm : Room) (mc ms n : Nat) : Prop :=
  (rm.cells = mc ∧ rm.slots = ms ∧ rm.frames + 1 ≤ R.frames ∧ 8 + (maxL + 11) + rm.locals ≤ R.locals ∧ (∀ w ∈ ws, ∀ (a' : Array Value) (U : State), s.WarmedH U.vm → w.before a' U = true) ∧ Cond.codeWith y bytes maxL ret hh ∈ ws) ∧
  (Cond.codeWith y bytes maxL ret hh).before args s = true ∧ (Cond.initialized y.cls).before args s = true ∧ (y.cls ≠ "java/lang/invoke/MethodHandle" ∧ y.cls ≠ "java/lang/invoke/VarHandle") ∧
  (∀ sig, parseMethodDescriptor y.desc = some sig → n = sig.parameters.length) ∧ (Cond.methodLink own index y).before args s = true ∧ (Cond.instanceMethod y).before args s = true ∧ (Cond.selects C y y).before args s = true
theorem vx_cwVW {own C : String} {index maxL mc ms : Nat} {y : MethodName} {bytes : ByteArray} {ret : Option FieldType} {hh : List (Nat × Nat × Nat × Nat)} {Ts ws ws' : List Cond} {rm : Room} (n : Nat) (ht : ∀ w ∈ Ts, w.before args s = true) (hT : GoodIn Ts (wsV own index C y ws)) (hw : ws = Cond.codeWith y bytes maxL ret hh :: ws') (hrc : rm.cells = mc) (hrs : rm.slots = ms)
    (hd : y.cls = C ∧ y.cls ≠ "java/lang/invoke/MethodHandle" ∧ y.cls ≠ "java/lang/invoke/VarHandle" ∧ (parseMethodDescriptor y.desc).map (fun d => d.parameters.length) = some n) (hR : rm.frames + 1 ≤ R.frames ∧ 8 + (maxL + 11) + rm.locals ≤ R.locals) :
    vx_CVW R s args own C index y bytes maxL ret hh ws rm mc ms n := by
  obtain ⟨hC, hd⟩ := hd
  subst hC
  have ok : ∀ w ∈ wsV own index y.cls y ws, w.before args s = true := fun w h => ht w (hT w h).1
  have hG : GoodIn Ts ws := fun w h => hT w (by unfold wsV; exact List.mem_append_right _ h)
  have hc : Cond.codeWith y bytes maxL ret hh ∈ ws := by rw [hw]; exact List.mem_cons_self
  refine ⟨⟨hrc, hrs, hR.1, hR.2, pay_in ht hG, hc⟩, ht _ (hG _ hc).1, ok _ (by simp [wsV]), ⟨hd.1, hd.2.1⟩, fun sig h => ?_, ok _ (by simp [wsV]), ok _ (by simp [wsV]), ok _ (by simp [wsV])⟩
  have h2 := hd.2.2
  rw [h] at h2
  exact (Option.some.inj h2).symm
theorem vx_runVW {y : MethodName} {bytes cc : ByteArray} {maxL nL mc ms n index : Nat} {ret : Option FieldType} {hh : List (Nat × Nat × Nat × Nat)} {ws : List Cond} {rm : Room} {Pc : Array Value → State → Prop} {Qc : Array Value → State → Outcome → State → Prop} {free : Addr → Prop} {Ts : List Cond} {own C : String} {b : Addr} {As rest : List Value} {g : JFrame}
    (S : CallFix p m c cc nL s args Ts own) (hM : Met l y ws rm Pc Qc mc ms free) (cw : vx_CVW R s args own C index y bytes maxL ret hh ws rm mc ms n) (hp : PreV s H C b Pc As)
    (hg : g.method = m) (hn : As.length = n) (hsize : g.locals.size = nL) (hstack : g.stack = As.reverse ++ .ref b :: rest) (hW : 2 * g.monitorRoom + (rest.map fun v => v.category).sum ≤ 8) (hdg : decode cc g.pc = .ok (.invokevirtual index, 3)) (hf : cells + mc ≤ R.cells ∧ slots + ms ≤ R.slots) :
    va_Run p l e R s m args below meth c H locs cells slots mc ms g rest (Qc (Value.ref b :: As).toArray) free := by
  obtain ⟨⟨hrc, hrs, hfr, hlo, hws, hcw⟩, hcode, hini, hy, hlen, hl, hin, hse⟩ := cw
  have hK : Back l R p e below s args y 3 8 (PreOf R mc ms Pc) (PostOf Qc mc ms free) := va_backW (hh := hh) (bytes := bytes) (maxL := maxL) (ret := ret) hM hp.1 hrc hrs hfr hlo hws hcw (fun a' U hW => word_at hW (Or.inl (by first | rfl | simp [Cond.onTables, Cond.keeps, Cond.steady])) hini)
  obtain ⟨hx, hb, hml, ho, -⟩ := S
  obtain ⟨-, ⟨cellB, hcB, hoB, hclB⟩, hPc⟩ := hp
  intro T hT X
  obtain ⟨v, vm₁, ⟨U', l2, c2, s2⟩, hW₁, X', ⟨g', mk, t, L, e1, e2, hq, h1, hL, h2, h3⟩, st⟩ := vx_callVW X hx (C := C) (hh := hh) (bytes := bytes) (maxL := maxL) (ret := ret) ho hl hin hse hcode hy hK (by rw [hT]; exact hcB) hoB hclB hg (hsize.trans hml.symm) (argsL := As) (rest := rest) (fun sig h => hn.trans (hlen sig h)) hstack hW (by rw [hb]; exact hdg)
    (fun vm₁ hW₁ => ⟨hf.1, hf.2, hPc (T.setVm vm₁) hT hW₁⟩)
  dsimp only [Pt.U, Pt.locs, Pt.cells, Pt.slots] at X' e1 e2 h1 h2 h3 st
  subst h1; subst h2; subst h3
  exact ⟨v, (T.setVm vm₁).calling g' mk (Value.ref b :: As).toArray, t, U', L, hT, X', hL, e1, e2, hq, st⟩
section
variable {y : MethodName} {bytes cc : ByteArray} {maxL nL mc ms n index : Nat} {ret : Option FieldType} {ws : List Cond} {rm : Room} {Pc : Array Value → State → Prop} {Qc : Array Value → State → Outcome → State → Prop} {XC : String → State → State → Prop} {free : Addr → Prop} {Ts : List Cond} {own C : String} {b : Addr} {As rest : List Value} {g : JFrame}
theorem vx_runVX {hh : List (Nat × Nat × Nat × Nat)} (S : CallFix p m c cc nL s args Ts own) (hM : vx_Met l y ws rm Pc Qc XC mc ms free) (cw : vx_CVW R s args own C index y bytes maxL ret hh ws rm mc ms n) (hp : PreV s H C b Pc As)
    (hg : g.method = m) (hn : As.length = n) (hsize : g.locals.size = nL) (hstack : g.stack = As.reverse ++ .ref b :: rest) (hW : 2 * g.monitorRoom + (rest.map fun v => v.category).sum ≤ 8) (hdg : decode cc g.pc = .ok (.invokevirtual index, 3)) (hf : cells + mc ≤ R.cells ∧ slots + ms ≤ R.slots) :
    vx_Run p l e R s m args below meth c H locs cells slots mc ms g rest (Qc (Value.ref b :: As).toArray) XC free := by
  obtain ⟨⟨hrc, hrs, hfr, hlo, hws, hcw⟩, hcode, hini, hy, hlen, hl, hin, hse⟩ := cw
  have hK : vx_Back l R p e below s args y 3 8 (PreOf R mc ms Pc) (PostOf Qc mc ms free) (vx_Post XC mc ms free) := vx_backW (hh := hh) (bytes := bytes) (maxL := maxL) (ret := ret) hM hp.1 hrc hrs hfr hlo hws hcw (fun a' U hW => word_at hW (Or.inl (by first | rfl | simp [Cond.onTables, Cond.keeps, Cond.steady])) hini)
  obtain ⟨hx, hb, hml, ho, -⟩ := S
  obtain ⟨-, ⟨cellB, hcB, hoB, hclB⟩, hPc⟩ := hp
  intro T hT X
  rcases vx_callVX X hx (C := C) (hh := hh) (bytes := bytes) (maxL := maxL) (ret := ret) ho hl hin hse hcode hy hK (by rw [hT]; exact hcB) hoB hclB hg (hsize.trans hml.symm) (argsL := As) (rest := rest) (fun sig h => hn.trans (hlen sig h)) hstack hW (by rw [hb]; exact hdg)
    (fun vm₁ hW₁ => ⟨hf.1, hf.2, hPc (T.setVm vm₁) hT hW₁⟩) with ⟨v, vm₁, ⟨U', l2, c2, s2⟩, hW₁, X', ⟨g', mk, t, L, e1, e2, hq, h1, hL, h2, h3⟩, st⟩ | ⟨q, vm₁, ⟨U', l2, c2, s2⟩, hW₁, X', ⟨g', mk, t, L, E, ce, e1, e2, hq, hce, hcv, hcl, h1, hL, h2, h3⟩, st⟩
  · dsimp only [Pt.U, Pt.locs, Pt.cells, Pt.slots] at X' e1 e2 h1 h2 h3 st
    subst h1; subst h2; subst h3
    exact Or.inl ⟨v, (T.setVm vm₁).calling g' mk (Value.ref b :: As).toArray, t, U', L, hT, X', hL, e1, e2, hq, st⟩
  · dsimp only [Pt.U, Pt.locs, Pt.cells, Pt.slots] at X' e1 e2 h1 h2 h3 st hcl
    subst h1; subst h2; subst h3
    exact Or.inr ⟨q, (T.setVm vm₁).calling g' mk (Value.ref b :: As).toArray, t, U', L, E, ce, hT, X', hL, e1, e2, hq, hce, hcv, vx_cls hW₁ hcl, st⟩
theorem vx_runSX {hh : List (Nat × Nat × Nat × Nat)} (S : CallFix p m c cc nL s args Ts own) (hM : vx_Met l y ws rm Pc Qc XC mc ms free) (cw : vx_CSW R s args own index y bytes maxL ret hh ws rm mc ms n) (hp : PreS s H Pc As)
    (hg : g.method = m) (hn : As.length = n) (hsize : g.locals.size = nL) (hstack : g.stack = As.reverse ++ rest) (hW : 2 * g.monitorRoom + (rest.map fun v => v.category).sum ≤ 8) (hdg : decode cc g.pc = .ok (.invokestatic index, 3)) (hf : cells + mc ≤ R.cells ∧ slots + ms ≤ R.slots) :
    vx_Run p l e R s m args below meth c H locs cells slots mc ms g rest (Qc As.toArray) XC free := by
  obtain ⟨⟨hrc, hrs, hfr, hlo, hws, hcw⟩, hcode, hini, hy, hlen, hl, hstt⟩ := cw
  have hK : vx_Back l R p e below s args y 3 8 (PreOf R mc ms Pc) (PostOf Qc mc ms free) (vx_Post XC mc ms free) := vx_backW (hh := hh) (bytes := bytes) (maxL := maxL) (ret := ret) hM hp.1 hrc hrs hfr hlo hws hcw (fun a' U hW => word_at hW (Or.inl (by first | rfl | simp [Cond.onTables, Cond.keeps, Cond.steady])) hini)
  obtain ⟨hx, hb, hml, ho, -⟩ := S
  intro T hT X
  rcases vx_callSX X hx (hh := hh) (bytes := bytes) (maxL := maxL) (ret := ret) ho hl hstt hini hcode hy hK hg (hsize.trans hml.symm) (argsL := As) (rest := rest) (fun sig h => hn.trans (hlen sig h)) hstack hW (by rw [hb]; exact hdg)
    (fun vm₁ hW₁ => ⟨hf.1, hf.2, hp.2 (T.setVm vm₁) hT hW₁⟩) with ⟨v, vm₁, ⟨U', l2, c2, s2⟩, hW₁, X', ⟨g', mk, t, L, e1, e2, hq, h1, hL, h2, h3⟩, st⟩ | ⟨q, vm₁, ⟨U', l2, c2, s2⟩, hW₁, X', ⟨g', mk, t, L, E, ce, e1, e2, hq, hce, hcv, hcl, h1, hL, h2, h3⟩, st⟩
  · dsimp only [Pt.U, Pt.locs, Pt.cells, Pt.slots] at X' e1 e2 h1 h2 h3 st
    subst h1; subst h2; subst h3
    exact Or.inl ⟨v, (T.setVm vm₁).calling g' mk As.toArray, t, U', L, hT, X', hL, e1, e2, hq, st⟩
  · dsimp only [Pt.U, Pt.locs, Pt.cells, Pt.slots] at X' e1 e2 h1 h2 h3 st hcl
    subst h1; subst h2; subst h3
    exact Or.inr ⟨q, (T.setVm vm₁).calling g' mk As.toArray, t, U', L, E, ce, hT, X', hL, e1, e2, hq, hce, hcv, vx_cls hW₁ hcl, st⟩
end
end VXH
theorem vx_ofWH {l : Launch} {y : MethodName} {ws ws' : List Cond} {rm : Room} {Pc : Array Value → State → Prop} {Qc : Array Value → State → Outcome → State → Prop} {XC : String → State → State → Prop} {mc ms : Nat} {free : Addr → Prop} {cc : ByteArray} {maxL : Nat} {ret : Option FieldType} {hh : List (Nat × Nat × Nat × Nat)}
    (hy : plainName y.cls = true) (hw : ws = Cond.codeWith y cc maxL ret hh :: ws')
    (body : ∀ p e s m args below meth c s₁, BodyLoose p l y (headSpec ws rm) cc maxL ret e s m args below meth c s₁ → c.maxLocals = maxL → Pc args s →
      W p l e (headSpec ws rm).room s m args below meth c s.heap [] 0 0 (vx_MQ below Qc XC args s mc ms free) (entryFrame m args maxL)) : vx_Met l y ws rm Pc Qc XC mc ms free := by
  refine MetFree.of_bodyS (code := cc) (maxLocals := maxL) (ret := ret) hy ?_ ?_
  · intro args s m h hn
    obtain ⟨m9, meth, c, hn9, h1, h2, h3, h4, -, h5, h6, -⟩ := Cond.codeWith_spec (atoms_spec (ws := ws) h _ (by rw [hw]; exact List.mem_cons_self))
    cases hn.symm.trans hn9
    exact ⟨meth, c, h1, h2, h3, h4, h5, h6⟩
  · intro p e s m args below meth c s₁ B hml hP _
    have hh0 : s₁.heap = s.heap := by rw [B.state]; rfl
    obtain ⟨t, a1, o, b1, b2, b3⟩ := body p e s m args below meth c s₁ B hml hP s₁ hh0 (Stand.of_body B)
    exact ⟨t, o, a1, b1, b2, b3⟩
/-! ===== END ===== -/
/-! ===== BEGIN what the machine throws by itself, no traces kept ===== -/
section VXM
set_option maxHeartbeats 1000000 in
/-- the machine throws cls with the message text, no traces kept: from its note over the frame g to 'throwing' over the same frame (follows the proofs of Stand.vmThrowsMessage, Shelf/KitTracedVmS.lean, and Stand.throwsMessageColdBareV, StandMessageColdV.lean, without the step out of the frame) -/
theorem vx_vmAt {p : Program} {l : Launch} {e : Env} {R : Room} {s : State} {m₀ : MethodId} {args : Array Value} {below : List Frame} {meth : Method} {c : Code} {W : State} {locs : List Loc} {cells slots : Nat}
    (X : Stand p l e R s m₀ args below meth c W locs cells slots) (hexec : p.tables.exec = Jvm.exec) (htr : e.platform.stackTraces = false) {cls : String} {names : List String} {text : String}
    (hcls : Bundle.fit cls = true) (hnames : ∀ n ∈ names, Bundle.fit n = true) (hsoe : (cls == "java/lang/StackOverflowError") = false) (hoom : (cls == "java/lang/OutOfMemoryError") = false)
    (h : ∀ a ∈ Bundle.messageArmAtoms cls names, a.before args s = true)
    (hlocs : ∀ x ∈ locs, ∀ cell, s.heap[x.base]? = some cell → cell.vm.isStatics = false)
    (htext : (text == notModelled) = false) (hlimit : ¬ (stringBytes (stringToUtf16 text)).size > e.platform.arrayLengthLimit) (hheap : ¬ (stringBytes (stringToUtf16 text)).size * componentBytes .byte > e.platform.maxHeapBytes)
    {g : JFrame} (hg : g.method = m₀) (hsize : g.locals.size = c.maxLocals)
    (hRframes : names.length + 4 < R.frames) (hRlocals : 2 * g.monitorRoom + (g.stack.map fun v => v.category).sum + 10240 ≤ R.locals) (hshort : 13 * names.length + 55 ≤ 10240)
    (hRcells : cells + 3 ≤ R.cells) (hRslots : slots + ((stringBytes (stringToUtf16 text)).size + 4 + 6) ≤ R.slots) (hlocks : meth.locks = false) :
    ∃ (S : State) (q : Addr) (ce : Cell), (∀ target, Steps p.tables e below ((S.setTop g).pushFrame (.throwing q)) target → Steps p.tables e below ((W.setTop g).pushFrame (.throwNew cls (some text) none)) target) ∧
      Stand p l e R s m₀ args below meth c S locs (cells + 3) (slots + ((stringBytes (stringToUtf16 text)).size + 4 + 6)) ∧ S.heap[q]? = some ce ∧ s.vm.findClass cls = some ce.cls ∧ ce.vm = .none := by
  have howns : e.platform.frameOwnsMonitors = true := by rw [X.admits.platform]
  have hfin : e.platform.finalization = false := by rw [X.admits.platform]
  have hpl : e.platform.magicAccessors = ({} : Platform).magicAccessors := by rw [X.admits.platform]
  have a : ∀ x, x ∈ Bundle.messageArmAtoms cls names → x.holds args s none s [] = true := fun x hx => h x hx
  obtain ⟨T, Z0, L, -, Y⟩ := ThrowableC.of_atoms (args := args) howns hfin hpl (fun x hx => h x (by simp [Bundle.messageArmAtoms, hx]))
  obtain ⟨Z, M, LZ, LM, hnZ⟩ := Init0T.ofS_atoms (args := args) hpl L Y (fun x hx => h x (by simp [Bundle.messageArmAtoms, hx]))
  obtain ⟨P1, Ps, hlen, L1, hL, hP1m, hlink1, hlink⟩ := Bundle.chainS (args := args) hpl hnZ names cls hcls hnames (fun x hx => h x (by simp [Bundle.messageArmAtoms, hx]))
  obtain ⟨Zs, LZs, hn4, hfitv, hfitc⟩ := StringT.of_atoms (args := args) (fun x hx => h x (by simp [Bundle.messageArmAtoms, hx]))
  have hfound : s.vm.findClass cls = some P1.m.cls := findClass_of_methodNamed hP1m
  obtain ⟨c1, kX, hc1, hk, hord, -, -, hn6⟩ := Cond.instantiable_spec (a (.instantiable cls 6) (by simp [Bundle.messageArmAtoms]))
  cases Option.some.inj (hc1.symm.trans hfound)
  have hinit := Cond.initialized_spec hfound hk (a (.initialized cls) (by simp [Bundle.messageArmAtoms]))
  have hctor : kX.findMethod "<init>" "(Ljava/lang/String;)V" = some P1.m.idx := findMethod_of_methodNamed hP1m hk
  have hsel0 : selectMethod e.platform s.vm P1.m.cls T.fill0 = .method T.fill0 := by
    obtain ⟨c2, r2, m2, q1, q2, q3, q4, -⟩ := Cond.selects_spec (a (.selects cls Bundle.tFill0 Bundle.tFill0) (by simp [Bundle.messageArmAtoms]))
    cases Option.some.inj (q1.symm.trans hfound)
    cases Option.some.inj (q2.symm.trans (State.methodFound?_of_named Y.fill0 (by decide)))
    cases Option.some.inj (q3.symm.trans Y.fill0)
    rw [Launch.admits_selectMethod X.admits]; exact q4
  have hselF : selectMethod e.platform s.vm P1.m.cls T.fill = .method T.fill := by
    obtain ⟨c2, r2, m2, q1, q2, q3, q4, -⟩ := Cond.selects_spec (a (.selects cls Bundle.tFill Bundle.tFill) (by simp [Bundle.messageArmAtoms]))
    cases Option.some.inj (q1.symm.trans hfound)
    cases Option.some.inj (q2.symm.trans (State.methodFound?_of_named Y.fill (by decide)))
    cases Option.some.inj (q3.symm.trans Y.fill)
    rw [Launch.admits_selectMethod X.admits]; exact q4
  obtain ⟨cellS0, hcS0, hiss⟩ := Y.statics
  obtain ⟨u0, hu0⟩ := Cond.staticRefV Y.unassigned L.unassignedStatic L.statics hcS0 hiss (a (.isRef (.static Bundle.tN "UNASSIGNED_STACK" Bundle.steD)) (by simp [Bundle.messageArmAtoms]))
  obtain ⟨sen, hsen⟩ := Cond.staticRefV Y.sentinel L.sentinelStatic L.statics hcS0 hiss (a (.isRef (.static Bundle.tN "SUPPRESSED_SENTINEL" Bundle.listD)) (by simp [Bundle.messageArmAtoms]))
  obtain ⟨ci198, i198, fB, hk198, hg198, ha198, hsB, -, hnB, htB, hffB⟩ := Cond.ownField (t := .object "java/lang/Object") Y.found L.cls (by decide +kernel) (a (.fieldLink Bundle.tN 198 Bundle.tN "backtrace" "Ljava/lang/Object;") (by simp [Bundle.messageArmAtoms])) (a (.lays Bundle.tN Bundle.tN "backtrace" "Ljava/lang/Object;") (by simp [Bundle.messageArmAtoms])) e.platform hpl
  obtain ⟨cellS, hcS', heS, -, hkeep⟩ := X.same.2.2.2.2.2 T.aS cellS0 hcS0
  have hcellS : W.heap[T.aS]? = some cellS := hcS'
  have hout' : ∀ i, (⟨T.aS, i⟩ : Loc) ∉ locs := fun i hmem => by
    have := hlocs _ hmem cellS0 hcS0
    rw [hiss] at this; cases this
  have hknownS : cellS.vm ≠ .unknown := by
    rw [heS]; intro hu
    rw [show cellS0.vm = .unknown from hu] at hiss
    cases hiss
  have hvU : cellS.slots[T.fUnassigned.slot]? = some u0.v := by rw [hkeep _ (hout' _)]; exact hu0
  have hvSen : cellS.slots[T.fSentinel.slot]? = some sen.v := by rw [hkeep _ (hout' _)]; exact hsen
  obtain ⟨iM, hffM⟩ := Y.msg
  obtain ⟨tyC, dC, hdC, hdnC⟩ := Cond.laysAt hfound hk Y.cause (a (.lays cls Bundle.tN "cause" "Ljava/lang/Throwable;") (by simp [Bundle.messageArmAtoms]))
  obtain ⟨tyS, dS, hdS, hdnS⟩ := Cond.laysAt hfound hk Y.stack (a (.lays cls Bundle.tN "stackTrace" Bundle.steD) (by simp [Bundle.messageArmAtoms]))
  obtain ⟨tyP, dP, hdP, hdnP⟩ := Cond.laysAt hfound hk Y.supp (a (.lays cls Bundle.tN "suppressedExceptions" Bundle.listD) (by simp [Bundle.messageArmAtoms]))
  obtain ⟨tyM, dM, hdM, hdnM⟩ := Cond.laysAt hfound hk hffM (a (.lays cls Bundle.tN "detailMessage" "Ljava/lang/String;") (by simp [Bundle.messageArmAtoms]))
  obtain ⟨tyB, dB, hdB, hdnB⟩ := Cond.laysAt hfound hk hffB (a (.lays cls Bundle.tN "backtrace" "Ljava/lang/Object;") (by simp [Bundle.messageArmAtoms]))
  have bC := Cond.laysApart hdB hdC hdnB hdnC (by rw [hnB, Y.causeName]; decide)
  have bS := Cond.laysApart hdB hdS hdnB hdnS (by rw [hnB, Y.stackName]; decide)
  have bP := Cond.laysApart hdB hdP hdnB hdnP (by rw [hnB, Y.suppName]; decide)
  have hbk : ((preparedCellV T.toThrowableT (freshCell P1.m.cls kX) (W.heap.size + 2) u0 sen).withEntry W.cur).slots[fB.slot]? = some .null := by
    have := fresh_default (c := P1.m.cls) tyB
    rw [htB] at this
    simpa [preparedCellV, Cell.setSlot, Cell.withEntry, Array.getElem?_setIfInBounds, bC, bS, bP, bC.symm, bS.symm, bP.symm, defaultValue] using this
  have tkC := Takes.of_laid (v := .ref (W.heap.size + 2)) hk hord tyC (by rw [Y.causeType]; rfl)
  have tkS := Takes.of_laid (v := u0.v) hk hord tyS (by rw [Y.stackType]; exact fits_refV_array _ u0)
  have tkP := Takes.of_laid (v := sen.v) hk hord tyP (by rw [Y.suppType]; exact fits_refV_object _ sen)
  have tkM := Takes.of_laid (v := .ref (W.heap.size + 1)) hk hord tyM (by rw [Y.msgType]; rfl)
  have hskip : SkipFacts T e.platform s (fun u => u) u0 ((preparedCellV T.toThrowableT (freshCell P1.m.cls kX) (W.heap.size + 2) u0 sen).withEntry W.cur) := ⟨{ ci198 := ci198, i198 := i198, fBack := fB }, ⟨hk198, hg198, ha198, hsB⟩, hbk, fun _ _ => rfl⟩
  have h0 : At W g.method c below := by rw [hg]; exact X.here
  obtain ⟨hbeyond, hfreeW⟩ := X.vmMayThrow hsize (.throwNew cls (some text) none) (fun f hf => by cases hf) rfl hRlocals
  have hfr' : W.frames.length + Ps.length + 4 < (e.platform.stackLimits W.me).1 := by have := X.framesAbove hRframes; omega
  have hwd' : (stackUse (.java g :: W.frames.tail)).2 + 13 * Ps.length + 55 ≤ (e.platform.stackLimits W.me).2 := by have := X.stackAbove hsize (K := 13 * Ps.length + 55) (by omega); omega
  have hslots : W.slotsUsed + (stringBytes (stringToUtf16 text)).size + Zs.kS.instanceTypes.size + kX.instanceTypes.size ≤ e.platform.maxSlots := by
    have := X.slotsAbove hRslots
    rw [hn4, hn6]
    omega
  obtain ⟨vm', hW', st⟩ := Steps.vmThrowsMessageColdByV p (s₀ := s) (S := W) (g := g) h0 hexec T L Z LZ M LM X.warmed (t := W.cur) rfl Zs LZs P1 L1 Ps hL hlink1 hlink hsoe hoom hfound hk hinit hord hctor
    (Launch.admits_hotImplicitExceptions X.admits) hbeyond hfreeW htext hlimit hheap (X.cellsAbove hRcells) hslots (hfitv _) (hfitc _)
    (Nn := fun u => u) heapOnly_id (fun _ _ => rfl) (fun _ => rfl) (fun u x y => setCell_twice _ _ _ _) (fun _ => Nat.le_refl _) (cN := ((preparedCellV T.toThrowableT (freshCell P1.m.cls kX) (W.heap.size + 2) u0 sen).withEntry W.cur))
    hsel0 hcellS hknownS hvU tkS (fun _ hu => hu) (fun _ hu => hu) rfl rfl rfl (by simp [preparedCellV, Cell.setSlot, Cell.withEntry]) hskip (fun _ _ hA hW _ hroom _ hrest => L.nativeOff p htr hA hW hroom hrest) hselF hvSen tkC tkP tkM Y.objLocals rfl hfr' hwd'
  rw [plainBareV_eq T.toThrowableT (W.heap.size + 2) u0 sen (.ref (W.heap.size + 1)) W.cur rfl rfl] at st
  obtain ⟨-, -, w3, w4, -, -, -⟩ := withThrown_facts e.platform W Zs text P1.m.cls kX
  have X3 := ((X.pushed (bytesOf Zs.cB (stringToUtf16 text))).pushed (stringAt Zs.cS Zs.kS Zs.fv Zs.fc (stringToUtf16 text) W.heap.size)).pushed (freshCell P1.m.cls kX)
  rw [← withString_eq] at X3
  have X4 := X3.noted hW'
  have ha : (W.heap.size + 2) < ((withThrown W Zs text P1.m.cls kX).setVm vm').heap.size := by show _ < (withThrown W Zs text P1.m.cls kX).heap.size; rw [w3]; omega
  have hcell : ((withThrown W Zs text P1.m.cls kX).setVm vm').heap[(W.heap.size + 2)]? = some (freshCell P1.m.cls kX) := w4
  have X5 := ((((X4.stored hcell T.fCause.slot (.ref (W.heap.size + 2))).storedAgain ha T.fStack.slot u0.v).storedAgain ha T.fSupp.slot sen.v).storedAgain ha T.fStack.slot u0.v).storedAgain ha T.fMsg.slot (.ref (W.heap.size + 1))
  obtain ⟨g₁, hfrM⟩ := X5.frames_eq
  have hU : ((((withThrown W Zs text P1.m.cls kX).setVm vm').setCell (W.heap.size + 2) (plainBareV T.toThrowableT (freshCell P1.m.cls kX) (W.heap.size + 2) u0 sen (.ref (W.heap.size + 1)))).setTop g).pushFrame (.throwing (W.heap.size + 2)) = (((withThrown W Zs text P1.m.cls kX).setVm vm').setCell (W.heap.size + 2) (plainBareV T.toThrowableT (freshCell P1.m.cls kX) (W.heap.size + 2) u0 sen (.ref (W.heap.size + 1)))).setFrames (.throwing (W.heap.size + 2) :: .java g :: below) := by
    rw [State.pushFrame, State.frames_setTop _ hfrM, State.setTop_of_frames _ hfrM, State.setFrames_setFrames]
  have b1 : (bytesOf Zs.cB (stringToUtf16 text)).slots.size = (stringBytes (stringToUtf16 text)).size := by
    rw [(Cell.writeAll_facts _ _).2.2]; simp [bytes0]
  have b2 : (stringAt Zs.cS Zs.kS Zs.fv Zs.fc (stringToUtf16 text) W.heap.size).slots.size = 4 := by simp [string0, Cell.setSlot, hn4]
  have b3 : (freshCell P1.m.cls kX).slots.size = 6 := by simp [hn6]
  rw [b1, b2, b3] at X5
  have e9 : slots + (stringBytes (stringToUtf16 text)).size + 4 + 6 = slots + ((stringBytes (stringToUtf16 text)).size + 4 + 6) := by omega
  rw [e9] at X5
  simp only [List.append_assoc, List.cons_append, List.nil_append] at X5
  refine ⟨((withThrown W Zs text P1.m.cls kX).setVm vm').setCell (W.heap.size + 2) (plainBareV T.toThrowableT (freshCell P1.m.cls kX) (W.heap.size + 2) u0 sen (.ref (W.heap.size + 1))), W.heap.size + 2, _, fun target ht => st _ (by rw [X.tail, ← hU]; exact ht),
    X5.forget (fun y hy => ?_), heapAt_setCell_self _ ha, hfound, rfl⟩
  simp only [List.mem_cons, List.not_mem_nil, or_false] at hy
  have hge : s.heap.size ≤ W.heap.size := X.same.2.1
  rcases hy with rfl | rfl | rfl | rfl | rfl <;> exact Nat.le_trans hge (Nat.le_add_right _ 2)
set_option maxHeartbeats 1000000 in
/-- the machine throws NullPointerException, no traces kept: from its note over the frame g to 'throwing' over the same frame (follows the proof of Stand.vmThrowsNpe, Shelf42/KT2.lean; throwsNpeColdBareVAt, Shelf42/NT91.lean, called) -/
theorem vx_npeAt {p : Program} {l : Launch} {e : Env} {R : Room} {s : State} {m₀ : MethodId} {args : Array Value} {below : List Frame} {meth : Method} {c : Code} {W : State} {locs : List Loc} {cells slots : Nat}
    (X : Stand p l e R s m₀ args below meth c W locs cells slots) (hexec : p.tables.exec = Jvm.exec) (htr : e.platform.stackTraces = false) {n : Nat}
    (h : ∀ a ∈ Bundle.npeArmAtoms n, a.before args s = true)
    (hlocs : ∀ x ∈ locs, ∀ cell, s.heap[x.base]? = some cell → cell.vm.isStatics = false)
    {g : JFrame} (hg : g.method = m₀) (hsize : g.locals.size = c.maxLocals)
    (hRframes : 7 < R.frames) (hRlocals : 2 * g.monitorRoom + (g.stack.map fun v => v.category).sum + 10240 ≤ R.locals)
    (hRcells : cells + 1 ≤ R.cells) (hRslots : slots + n ≤ R.slots) (hlocks : meth.locks = false) :
    ∃ (S : State) (q : Addr) (ce : Cell), (∀ target, Steps p.tables e below ((S.setTop g).pushFrame (.throwing q)) target → Steps p.tables e below ((W.setTop g).pushFrame (.throwNew "java/lang/NullPointerException" none none)) target) ∧
      Stand p l e R s m₀ args below meth c S locs (cells + 1) (slots + n) ∧ S.heap[q]? = some ce ∧ s.vm.findClass "java/lang/NullPointerException" = some ce.cls ∧ ce.vm = .none := by
  have howns : e.platform.frameOwnsMonitors = true := by rw [X.admits.platform]
  have hfin : e.platform.finalization = false := by rw [X.admits.platform]
  have hpl : e.platform.magicAccessors = ({} : Platform).magicAccessors := by rw [X.admits.platform]
  have hpl2 : e.platform.arrayCloneIsPublic = true := by rw [X.admits.platform]
  have a' : ∀ x, x ∈ Bundle.npeArmAtoms n → x.holds args s none s [] = true := fun x hx => h x hx
  obtain ⟨T, Z, L, LZ, Y⟩ := ThrowableC.of_atoms (args := args) howns hfin hpl (fun x hx => h x (by simp [Bundle.npeArmAtoms, hx]))
  obtain ⟨N, LN, hcN, hnNF, hordN, hffS⟩ := NpeC.of_atoms (args := args) hpl hpl2 L Y (fun x hx => h x (by simp [Bundle.npeArmAtoms, hx]))
  obtain ⟨P1, L1, hP1m, hP1s⟩ := PassC.of_atoms (args := args) (s := s) hpl (X := Bundle.nN) (Y := Bundle.rN) (by decide) (by decide) LibCode.NullPointerException.Init0.at_0 LibCode.NullPointerException.Init0.at_1 LibCode.NullPointerException.Init0.at_4 (fun x hx => h x (by simp [Bundle.npeArmAtoms, hx]))
  obtain ⟨PR, LR, hPRm, hPRs⟩ := PassC.of_atoms (args := args) (s := s) hpl (X := Bundle.rN) (Y := Bundle.eN) (by decide) (by decide) LibCode.RuntimeException.Init0.at_0 LibCode.RuntimeException.Init0.at_1 LibCode.RuntimeException.Init0.at_4 (fun x hx => h x (by simp [Bundle.npeArmAtoms, hx]))
  obtain ⟨PE, LEx, hPEm, hPEs⟩ := PassC.of_atoms (args := args) (s := s) hpl (X := Bundle.eN) (Y := Bundle.tN) (by decide) (by decide) LibCode.Exception.Init0.at_0 LibCode.Exception.Init0.at_1 LibCode.Exception.Init0.at_4 (fun x hx => h x (by simp [Bundle.npeArmAtoms, hx]))
  have hfound : s.vm.findClass Bundle.nN = some P1.m.cls := findClass_of_methodNamed hP1m
  have ecls : N.cN = P1.m.cls := Option.some.inj (hcN.symm.trans hfound)
  have hk : s.vm.classes[P1.m.cls]? = some N.kN := by rw [← ecls]; exact LN.cls
  have hinit := Cond.initialized_spec hfound hk (a' (.initialized Bundle.nN) (by simp [Bundle.npeArmAtoms]))
  have hctor : N.kN.findMethod "<init>" "()V" = some P1.m.idx := findMethod_of_methodNamed hP1m hk
  obtain ⟨c1, k1, hc1, hk1, -, -, -, hn⟩ := Cond.instantiable_spec (a' (.instantiable Bundle.nN n) (by simp [Bundle.npeArmAtoms]))
  cases Option.some.inj (hc1.symm.trans hfound)
  cases Option.some.inj (hk1.symm.trans hk)
  have hfsz : (freshCell P1.m.cls N.kN).slots.size = n := by simp [hn]
  have hlink1 : P1.sup = PR.m := Option.some.inj (hP1s.symm.trans hPRm)
  have hlinkR : PR.sup = PE.m := Option.some.inj (hPRs.symm.trans hPEm)
  have hlinkE : PE.sup = Z.m T.toThrowableT := Option.some.inj (hPEs.symm.trans Y.init0)
  have hLs : ∀ P, P ∈ [PR, PE] → P.Links0 e.platform s := fun P hP => by
    simp only [List.mem_cons, List.not_mem_nil, or_false] at hP
    rcases hP with rfl | rfl
    · exact LR
    · exact LEx
  have hsel0 : selectMethod e.platform s.vm P1.m.cls T.fill0 = .method T.fill0 := by
    obtain ⟨c2, r2, m2, q1, q2, q3, q4, -⟩ := Cond.selects_spec (a' (.selects Bundle.nN Bundle.tFill0 Bundle.tFill0) (by simp [Bundle.npeArmAtoms]))
    cases Option.some.inj (q1.symm.trans hfound)
    cases Option.some.inj (q2.symm.trans (State.methodFound?_of_named Y.fill0 (by decide)))
    cases Option.some.inj (q3.symm.trans Y.fill0)
    rw [Launch.admits_selectMethod X.admits]; exact q4
  have hselF : selectMethod e.platform s.vm P1.m.cls T.fill = .method N.fill := by
    obtain ⟨c2, r2, m2, q1, q2, q3, q4, -⟩ := Cond.selects_spec (a' (.selects Bundle.nN Bundle.tFill Bundle.nFill) (by simp [Bundle.npeArmAtoms]))
    cases Option.some.inj (q1.symm.trans hfound)
    cases Option.some.inj (q2.symm.trans (State.methodFound?_of_named Y.fill (by decide)))
    cases Option.some.inj (q3.symm.trans hnNF)
    rw [Launch.admits_selectMethod X.admits]; exact q4
  obtain ⟨cellS0, hcS0, hiss⟩ := Y.statics
  obtain ⟨u0, hu0⟩ := Cond.staticRefV Y.unassigned L.unassignedStatic L.statics hcS0 hiss (a' (.isRef (.static Bundle.tN "UNASSIGNED_STACK" Bundle.steD)) (by simp [Bundle.npeArmAtoms]))
  obtain ⟨sen, hsen⟩ := Cond.staticRefV Y.sentinel L.sentinelStatic L.statics hcS0 hiss (a' (.isRef (.static Bundle.tN "SUPPRESSED_SENTINEL" Bundle.listD)) (by simp [Bundle.npeArmAtoms]))
  obtain ⟨ci198, i198, fB, hk198, hg198, ha198, hsB, -, hnB, htB, hffB⟩ := Cond.ownField (t := .object "java/lang/Object") Y.found L.cls (by decide +kernel) (a' (.fieldLink Bundle.tN 198 Bundle.tN "backtrace" Bundle.objD) (by simp [Bundle.npeArmAtoms])) (a' (.lays Bundle.tN Bundle.tN "backtrace" Bundle.objD) (by simp [Bundle.npeArmAtoms])) e.platform hpl
  obtain ⟨cellS, hcS', heS, -, hkeep⟩ := X.same.2.2.2.2.2 T.aS cellS0 hcS0
  have hcellS : W.heap[T.aS]? = some cellS := hcS'
  have hout' : ∀ i, (⟨T.aS, i⟩ : Loc) ∉ locs := fun i hmem => by
    have := hlocs _ hmem cellS0 hcS0
    rw [hiss] at this; cases this
  have hknownS : cellS.vm ≠ .unknown := by
    rw [heS]; intro hu
    rw [show cellS0.vm = .unknown from hu] at hiss
    cases hiss
  have hvU : cellS.slots[T.fUnassigned.slot]? = some u0.v := by rw [hkeep _ (hout' _)]; exact hu0
  have hvSen : cellS.slots[T.fSentinel.slot]? = some sen.v := by rw [hkeep _ (hout' _)]; exact hsen
  obtain ⟨tyC, dC, hdC, hdnC⟩ := Cond.laysAt hfound hk Y.cause (a' (.lays Bundle.nN Bundle.tN "cause" "Ljava/lang/Throwable;") (by simp [Bundle.npeArmAtoms]))
  obtain ⟨tyS, dS, hdS, hdnS⟩ := Cond.laysAt hfound hk Y.stack (a' (.lays Bundle.nN Bundle.tN "stackTrace" Bundle.steD) (by simp [Bundle.npeArmAtoms]))
  obtain ⟨tyP, dP, hdP, hdnP⟩ := Cond.laysAt hfound hk Y.supp (a' (.lays Bundle.nN Bundle.tN "suppressedExceptions" Bundle.listD) (by simp [Bundle.npeArmAtoms]))
  obtain ⟨tyX, dX, hdX, hdnX⟩ := Cond.laysAt hfound hk hffS (a' (.lays Bundle.nN Bundle.nN "extendedMessageState" "I") (by simp [Bundle.npeArmAtoms, Bundle.npeAtoms]))
  obtain ⟨hnX, htX⟩ := State.fieldFound?_type hffS (t := .int) (by decide +kernel)
  have xC := Cond.laysApart hdC hdX hdnC hdnX (by rw [hnX, Y.causeName]; decide)
  have xS := Cond.laysApart hdS hdX hdnS hdnX (by rw [hnX, Y.stackName]; decide)
  have xP := Cond.laysApart hdP hdX hdnP hdnX (by rw [hnX, Y.suppName]; decide)
  have hv0 : (freshCell P1.m.cls N.kN).slots[N.fState.slot]? = some (.int 0) := by
    have := fresh_default (c := P1.m.cls) tyX
    rw [htX] at this; exact this
  obtain ⟨tyB, dB, hdB, hdnB⟩ := Cond.laysAt hfound hk hffB (a' (.lays Bundle.nN Bundle.tN "backtrace" Bundle.objD) (by simp [Bundle.npeArmAtoms]))
  have bC := Cond.laysApart hdB hdC hdnB hdnC (by rw [hnB, Y.causeName]; decide)
  have bS := Cond.laysApart hdB hdS hdnB hdnS (by rw [hnB, Y.stackName]; decide)
  have bP := Cond.laysApart hdB hdP hdnB hdnP (by rw [hnB, Y.suppName]; decide)
  have bX := Cond.laysApart hdB hdX hdnB hdnX (by rw [hnB, hnX]; decide)
  have hbk : ((npeCell N.toNpeT (preparedCellV T.toThrowableT (freshCell P1.m.cls N.kN) W.heap.size u0 sen) W.cur).withEntry W.cur).slots[fB.slot]? = some .null := by
    have := fresh_default (c := P1.m.cls) tyB
    rw [htB] at this
    simpa [npeCell, preparedCellV, Cell.setSlot, Cell.withEntry, Array.getElem?_setIfInBounds, bC, bS, bP, bX, bC.symm, bS.symm, bP.symm, bX.symm, defaultValue] using this
  have tkC := Takes.of_laid (v := .ref W.heap.size) hk hordN tyC (by rw [Y.causeType]; rfl)
  have tkS := Takes.of_laid (v := u0.v) hk hordN tyS (by rw [Y.stackType]; exact fits_refV_array _ u0)
  have tkP := Takes.of_laid (v := sen.v) hk hordN tyP (by rw [Y.suppType]; exact fits_refV_object _ sen)
  have tkX := Takes.of_laid (v := .int 1) hk hordN tyX (by rw [htX]; rfl)
  have hskip : SkipFacts T e.platform s (fun u => u) u0 ((npeCell N.toNpeT (preparedCellV T.toThrowableT (freshCell P1.m.cls N.kN) W.heap.size u0 sen) W.cur).withEntry W.cur) := ⟨{ ci198 := ci198, i198 := i198, fBack := fB }, ⟨hk198, hg198, ha198, hsB⟩, hbk, fun _ _ => rfl⟩
  obtain ⟨vm', X3, st, -⟩ := X.throwsNpeColdBareVAt hexec hg hsize T L Z LZ N LN P1 L1 [PR, PE] hLs hlink1 ⟨hlinkR, hlinkE, trivial⟩ hfound hk hinit hordN hctor hsel0 hselF hcellS hknownS hvU hvSen
    hv0 xC xS xP tkC tkS tkP tkX Y.objLocals hskip (fun _ _ hA hW _ hroom _ hrest => L.nativeOff p htr hA hW hroom hrest) (by simpa using hRframes) hRlocals (by simp) hRcells (by rw [hn]; exact hRslots)
  have hlt : W.heap.size < ((W.pushCell (freshCell P1.m.cls N.kN)).setVm vm').heap.size := by
    show W.heap.size < (W.pushCell (freshCell P1.m.cls N.kN)).heap.size
    rw [State.heap_size_pushCell]; omega
  rw [hfsz] at X3
  obtain ⟨g₁, hfrM⟩ := X3.frames_eq
  have hU : ((((W.pushCell (freshCell P1.m.cls N.kN)).setVm vm').setCell W.heap.size (npeBareV T.toThrowableT N.toNpeT (freshCell P1.m.cls N.kN) W.heap.size u0 sen)).setTop g).pushFrame (.throwing W.heap.size) = (((W.pushCell (freshCell P1.m.cls N.kN)).setVm vm').setCell W.heap.size (npeBareV T.toThrowableT N.toNpeT (freshCell P1.m.cls N.kN) W.heap.size u0 sen)).setFrames (.throwing W.heap.size :: .java g :: below) := by
    rw [State.pushFrame, State.frames_setTop _ hfrM, State.setTop_of_frames _ hfrM, State.setFrames_setFrames]
  refine ⟨_, W.heap.size, _, fun target ht => st.trans (by rw [← hU]; exact ht), X3.forget (fun y hy => ?_), heapAt_setCell_self _ hlt, hfound, rfl⟩
  simp only [List.mem_cons, List.not_mem_nil, or_false] at hy
  have hge : s.heap.size ≤ W.heap.size := X.same.2.1
  rcases hy with rfl | rfl | rfl | rfl | rfl <;> exact hge
/-- the words of a machine's NullPointerException, but the four that speak of the heap -/
def vx_atN (n : Nat) : List Cond := (Bundle.npeArmAtoms n).filter vx_no
/-- the words of a machine's throw with a message, but the four that speak of the heap -/
def vx_atM (X : String) (names : List String) : List Cond := (Bundle.messageArmAtoms X names).filter vx_no
section
variable {p : Program} {l : Launch} {e : Env} {R : Room} {s : State} {m : MethodId} {args : Array Value} {below : List Frame} {meth : Method} {c : Code} {H : Heap} {locs : List Loc} {cells slots : Nat}
/-- a frame seen from a rebased start, seen from the first start again -/
theorem vx_back9 {T S : State} {R' : Room} {k n : Nat} (X : Stand p l e R s m args below meth c T locs cells slots) (Y : Stand p l e R' ((T.setVm s.vm).setFrames (.invoking m args :: below)) m args below meth c T [] 0 0) (Z : Stand p l e R' ((T.setVm s.vm).setFrames (.invoking m args :: below)) m args below meth c S [] k n) :
    Stand p l e R s m args below meth c S locs (cells + k) (slots + n) := by
  have hW0 : s.WarmedH ((T.setVm s.vm).setFrames (.invoking m args :: below)).vm := State.WarmedH.refl s
  refine { admits := X.admits, cas := X.cas, clock := X.clock, frames := X.frames, room := X.room, hears := X.hears, method := X.method, code := X.code, here := Z.here, tail := Z.tail, warmed := State.WarmedH.trans hW0 Z.warmed, limits := Z.limits.trans (Y.limits.symm.trans X.limits), bytes := Z.bytes.trans (Y.bytes.symm.trans X.bytes), same := ?_ }
  obtain ⟨e1, e2⟩ := Z.same
  rw [State.setFrames_setFrames] at e1
  have h2 : (T.setVm s.vm).sameButNew (S.setVm s.vm) [] k n := ⟨e1, e2⟩
  have h3 := X.same.trans h2
  rw [List.append_nil] at h3
  exact h3
/-- from the machine's note that E is thrown here with this text -/
def vx_Note (p : Program) (l : Launch) (e : Env) (R : Room) (s : State) (m : MethodId) (args : Array Value) (below : List Frame) (meth : Method) (c : Code) (H : Heap) (locs : List Loc) (cells slots : Nat) (Q : State → Prop) (g : JFrame) (E text : String) : Prop :=
  ∀ T : State, T.heap = H → Stand p l e R s m args below meth c T locs cells slots → ∃ t, Steps p.tables e below ((T.setTop g).pushFrame (.throwNew E (some text) none)) t ∧ Q t
theorem vx_vm {pc : Nat} {ls : Array Slot} {rest : List Value} {Q : State → Prop} (hexec : p.tables.exec = Jvm.exec) (hl : l.stackTraces = false) {cls text : String} {names : List String} {nb : Nat} {A : Nat → Prop}
    (hcls : Bundle.fit cls = true) (hnames : ∀ n ∈ names, Bundle.fit n = true) (hsoe : (cls == "java/lang/StackOverflowError") = false) (hoom : (cls == "java/lang/OutOfMemoryError") = false)
    (hat : ∀ w ∈ vx_atM cls names, w.before args s = true) (hgood : ∀ w ∈ vx_atM cls names, vx_ot w = true)
    (hU : vx_Zq Bundle.tN "UNASSIGNED_STACK" Bundle.steD A s s.heap) (hN : vx_Zq Bundle.tN "SUPPRESSED_SENTINEL" Bundle.listD A s s.heap) (hS : va_S A s.heap H locs) (hsize : ls.size = c.maxLocals)
    (htext : (text == notModelled) = false) (hnb : (stringBytes (stringToUtf16 text)).size ≤ nb) (hnb1 : nb ≤ 1000)
    (hRframes : names.length + 4 < R.frames) (hRlocals : (rest.map fun v => v.category).sum + 10240 ≤ R.locals) (hshort : 13 * names.length + 55 ≤ 10240) (hRcells : cells + 3 ≤ R.cells) (hRslots : slots + (nb + 10) ≤ R.slots) (hlocks : meth.locks = false)
    (k : ∀ (H1 : Heap) (q9 : Addr) (ce : Cell), H.size ≤ H1.size → (∀ q : Nat, q < H.size → H1[q]? = H[q]?) → va_S A s.heap H1 locs → H1[q9]? = some ce → ce.vm = .none → s.vm.findClass cls = some ce.cls → vx_W p l e R s m args below meth c H1 locs (cells + 3) (slots + (nb + 10)) Q (F0 m pc ls rest) q9) :
    vx_Note p l e R s m args below meth c H locs cells slots Q (F0 m pc ls rest) cls text := by
  intro T hT X
  have htr : e.platform.stackTraces = false := (show e.platform.stackTraces = l.stackTraces by rw [X.admits.platform]).trans hl
  have Y := vx_rebase X (R' := { frames := R.frames, locals := R.locals, cells := 3, slots := nb + 10 }) (Nat.le_refl _) (Nat.le_refl _) hRcells hRslots
  have hhp : ((T.setVm s.vm).setFrames (.invoking m args :: below)).heap = H := hT
  have hW0 : s.WarmedH ((T.setVm s.vm).setFrames (.invoking m args :: below)).vm := State.WarmedH.refl s
  have hat' : ∀ w ∈ vx_atM cls names, w.before args ((T.setVm s.vm).setFrames (.invoking m args :: below)) = true := fun w hw => vx_ot_at hW0 rfl (hgood w hw) (hat w hw)
  have hU' : vx_Zq Bundle.tN "UNASSIGNED_STACK" Bundle.steD A ((T.setVm s.vm).setFrames (.invoking m args :: below)) ((T.setVm s.vm).setFrames (.invoking m args :: below)).heap := by rw [hhp]; exact vx_Zq.moved hW0.alike (hU.kept hS.2.1)
  have hN' : vx_Zq Bundle.tN "SUPPRESSED_SENTINEL" Bundle.listD A ((T.setVm s.vm).setFrames (.invoking m args :: below)) ((T.setVm s.vm).setFrames (.invoking m args :: below)).heap := by rw [hhp]; exact vx_Zq.moved hW0.alike (hN.kept hS.2.1)
  obtain ⟨S, q, ce, st, Z, hce, hcl', hv⟩ := vx_vmAt Y hexec htr (cls := cls) (names := names) (text := text) hcls hnames hsoe hoom (vx_own hat' (vx_isRefq hU'.1) (vx_isRefq hN'.1) hU'.2.word hN'.2.word) (fun x hx => nomatch hx) htext
    (by rw [Launch.admits_arrayLengthLimit X.admits]; omega) (by rw [Launch.admits_maxHeapBytes X.admits]; simp only [componentBytes]; omega)
    (g := F0 m pc ls rest) rfl hsize hRframes (by show 2 * 0 + (rest.map fun v => v.category).sum + 10240 ≤ R.locals; omega) hshort (by show 0 + 3 ≤ 3; omega) (by show 0 + (_ + 4 + 6) ≤ nb + 10; omega) hlocks
  obtain ⟨f1, f2⟩ := vx_frame Z.same
  have f1' : H.size ≤ S.heap.size := by rw [← hT]; exact f1
  have f2' : ∀ q : Nat, q < H.size → S.heap[q]? = H[q]? := fun q hq => by
    rw [← hT]
    exact f2 q (by rw [← hT] at hq; exact hq) (fun z hz => nomatch hz)
  have X5 := vx_back9 X Y Z
  have X6 : Stand p l e R s m args below meth c S locs (cells + 3) (slots + (nb + 10)) := { X5 with same := X5.same.mono (by omega) (by omega) }
  obtain ⟨t, a1, b1⟩ := k S.heap q ce f1' f2' ⟨Nat.le_trans hS.1 f1', fun q h1 h2 => (f2' q (Nat.lt_of_lt_of_le h1 hS.1)).trans (hS.2.1 q h1 h2), hS.2.2⟩ hce hv hcl' S rfl X6
  exact ⟨t, st t a1, b1⟩
/-- from the machine's note that NullPointerException is thrown here -/
def vx_NoteN (p : Program) (l : Launch) (e : Env) (R : Room) (s : State) (m : MethodId) (args : Array Value) (below : List Frame) (meth : Method) (c : Code) (H : Heap) (locs : List Loc) (cells slots : Nat) (Q : State → Prop) (g : JFrame) : Prop :=
  ∀ T : State, T.heap = H → Stand p l e R s m args below meth c T locs cells slots → ∃ t, Steps p.tables e below ((T.setTop g).pushFrame (.throwNew "java/lang/NullPointerException" none none)) t ∧ Q t
theorem vx_npe {pc : Nat} {ls : Array Slot} {rest : List Value} {Q : State → Prop} (hexec : p.tables.exec = Jvm.exec) (hl : l.stackTraces = false) {nb : Nat} {A : Nat → Prop}
    (hat : ∀ w ∈ vx_atN nb, w.before args s = true) (hgood : ∀ w ∈ vx_atN nb, vx_ot w = true)
    (hU : vx_Zq Bundle.tN "UNASSIGNED_STACK" Bundle.steD A s s.heap) (hN : vx_Zq Bundle.tN "SUPPRESSED_SENTINEL" Bundle.listD A s s.heap) (hS : va_S A s.heap H locs) (hsize : ls.size = c.maxLocals)
    (hRframes : 7 < R.frames) (hRlocals : (rest.map fun v => v.category).sum + 10240 ≤ R.locals) (hRcells : cells + 1 ≤ R.cells) (hRslots : slots + nb ≤ R.slots) (hlocks : meth.locks = false)
    (k : ∀ (H1 : Heap) (q9 : Addr) (ce : Cell), H.size ≤ H1.size → (∀ q : Nat, q < H.size → H1[q]? = H[q]?) → va_S A s.heap H1 locs → H1[q9]? = some ce → ce.vm = .none → s.vm.findClass "java/lang/NullPointerException" = some ce.cls → vx_W p l e R s m args below meth c H1 locs (cells + 1) (slots + nb) Q (F0 m pc ls rest) q9) :
    vx_NoteN p l e R s m args below meth c H locs cells slots Q (F0 m pc ls rest) := by
  intro T hT X
  have htr : e.platform.stackTraces = false := (show e.platform.stackTraces = l.stackTraces by rw [X.admits.platform]).trans hl
  have Y := vx_rebase X (R' := { frames := R.frames, locals := R.locals, cells := 1, slots := nb }) (Nat.le_refl _) (Nat.le_refl _) hRcells hRslots
  have hhp : ((T.setVm s.vm).setFrames (.invoking m args :: below)).heap = H := hT
  have hW0 : s.WarmedH ((T.setVm s.vm).setFrames (.invoking m args :: below)).vm := State.WarmedH.refl s
  have hat' : ∀ w ∈ vx_atN nb, w.before args ((T.setVm s.vm).setFrames (.invoking m args :: below)) = true := fun w hw => vx_ot_at hW0 rfl (hgood w hw) (hat w hw)
  have hU' : vx_Zq Bundle.tN "UNASSIGNED_STACK" Bundle.steD A ((T.setVm s.vm).setFrames (.invoking m args :: below)) ((T.setVm s.vm).setFrames (.invoking m args :: below)).heap := by rw [hhp]; exact vx_Zq.moved hW0.alike (hU.kept hS.2.1)
  have hN' : vx_Zq Bundle.tN "SUPPRESSED_SENTINEL" Bundle.listD A ((T.setVm s.vm).setFrames (.invoking m args :: below)) ((T.setVm s.vm).setFrames (.invoking m args :: below)).heap := by rw [hhp]; exact vx_Zq.moved hW0.alike (hN.kept hS.2.1)
  obtain ⟨S, q, ce, st, Z, hce, hcl', hv⟩ := vx_npeAt Y hexec htr (n := nb) (vx_own hat' (vx_isRefq hU'.1) (vx_isRefq hN'.1) hU'.2.word hN'.2.word) (fun x hx => nomatch hx)
    (g := F0 m pc ls rest) rfl hsize hRframes (by show 2 * 0 + (rest.map fun v => v.category).sum + 10240 ≤ R.locals; omega) (by show 0 + 1 ≤ 1; omega) (by show 0 + nb ≤ nb; omega) hlocks
  obtain ⟨f1, f2⟩ := vx_frame Z.same
  have f1' : H.size ≤ S.heap.size := by rw [← hT]; exact f1
  have f2' : ∀ q : Nat, q < H.size → S.heap[q]? = H[q]? := fun q hq => by
    rw [← hT]
    exact f2 q (by rw [← hT] at hq; exact hq) (fun z hz => nomatch hz)
  have X5 := vx_back9 X Y Z
  have X6 : Stand p l e R s m args below meth c S locs (cells + 1) (slots + nb) := { X5 with same := X5.same.mono (by omega) (by omega) }
  obtain ⟨t, a1, b1⟩ := k S.heap q ce f1' f2' ⟨Nat.le_trans hS.1 f1', fun q h1 h2 => (f2' q (Nat.lt_of_lt_of_le h1 hS.1)).trans (hS.2.1 q h1 h2), hS.2.2⟩ hce hv hcl' S rfl X6
  exact ⟨t, st t a1, b1⟩
variable {Q : State → Prop} {cc : ByteArray} {pc : Nat} {ls : Array Slot} {rest : List Value}
theorem vx_idivZ (hexec : p.tables.exec = Jvm.exec) (hb : c.code = cc) {a b : Int32} (h0 : b = 0) (d : decode cc pc = .ok (.idiv, 1)) (k : vx_Note p l e R s m args below meth c H locs cells slots Q (F0 m pc ls rest) "java/lang/ArithmeticException" "/ by zero") :
    W p l e R s m args below meth c H locs cells slots Q (F0 m pc ls (.int b :: .int a :: rest)) := by
  intro T hT X
  obtain ⟨t, st, q⟩ := k T hT X
  exact ⟨t, X.idivZero hexec (g := F0 m pc ls (.int b :: .int a :: rest)) rfl (a := a) (rest := rest) (by rw [h0]) (by rw [hb]; exact d) t st, q⟩
theorem vx_iremZ (hexec : p.tables.exec = Jvm.exec) (hb : c.code = cc) {a b : Int32} (h0 : b = 0) (d : decode cc pc = .ok (.irem, 1)) (k : vx_Note p l e R s m args below meth c H locs cells slots Q (F0 m pc ls rest) "java/lang/ArithmeticException" "/ by zero") :
    W p l e R s m args below meth c H locs cells slots Q (F0 m pc ls (.int b :: .int a :: rest)) := by
  intro T hT X
  obtain ⟨t, st, q⟩ := k T hT X
  exact ⟨t, X.iremZero hexec (g := F0 m pc ls (.int b :: .int a :: rest)) rfl (a := a) (rest := rest) (by rw [h0]) (by rw [hb]; exact d) t st, q⟩
theorem vx_ldivZ (hexec : p.tables.exec = Jvm.exec) (hb : c.code = cc) {a b : Int64} (h0 : b = 0) (d : decode cc pc = .ok (.ldiv, 1)) (k : vx_Note p l e R s m args below meth c H locs cells slots Q (F0 m pc ls rest) "java/lang/ArithmeticException" "/ by zero") :
    W p l e R s m args below meth c H locs cells slots Q (F0 m pc ls (.long b :: .long a :: rest)) := by
  intro T hT X
  obtain ⟨t, st, q⟩ := k T hT X
  exact ⟨t, X.ldivZero hexec (g := F0 m pc ls (.long b :: .long a :: rest)) rfl (a := a) (rest := rest) (by rw [h0]) (by rw [hb]; exact d) t st, q⟩
theorem vx_lremZ (hexec : p.tables.exec = Jvm.exec) (hb : c.code = cc) {a b : Int64} (h0 : b = 0) (d : decode cc pc = .ok (.lrem, 1)) (k : vx_Note p l e R s m args below meth c H locs cells slots Q (F0 m pc ls rest) "java/lang/ArithmeticException" "/ by zero") :
    W p l e R s m args below meth c H locs cells slots Q (F0 m pc ls (.long b :: .long a :: rest)) := by
  intro T hT X
  obtain ⟨t, st, q⟩ := k T hT X
  exact ⟨t, X.lremZero hexec (g := F0 m pc ls (.long b :: .long a :: rest)) rfl (a := a) (rest := rest) (by rw [h0]) (by rw [hb]; exact d) t st, q⟩
theorem vx_ialdZ {D : va_G} {cl : List vw_C} {ws : va_W} {tys : List (ClassId × FieldType)} {a : Nat} (hexec : p.tables.exec = Jvm.exec) (hb : c.code = cc) (hK : va_K D cl tys s) (hP : va_P D cl ws H) (q0 t0 : Nat) {cA : ClassId} {n : Nat} {f : Nat → Int32} (ha : ws[q0]? = some (a, .inl (cA, n, .inl f))) (ht : tys[t0]? = some (cA, .int)) {i : Int32} (hout : ¬ vp_in i n) (hdg : decode cc pc = .ok (.iaload, 1))
    (k : ∀ tx : String, tx = (toString "Index " ++ toString i ++ toString " out of bounds for length " ++ toString n : String) → vx_Note p l e R s m args below meth c H locs cells slots Q (F0 m pc ls rest) "java/lang/ArrayIndexOutOfBoundsException" tx) : W p l e R s m args below meth c H locs cells slots Q (F0 m pc ls (.int i :: .ref a :: rest)) := by
  intro T hT X
  obtain ⟨t, st, q⟩ := k _ rfl T hT X
  refine ⟨t, ?_, q⟩
  have h1 := X.ialoadOut hexec (by rw [hT]; exact hP q0 _ ha) ((hK.2 t0 _ ht).1 n (fun j => .int (f j))) (j := i) (by show (i < 0 ∨ (arrV _ _ _).slots.size ≤ _); rw [arrV_size]; exact Classical.byContradiction hout) (g := F0 m pc ls (.int i :: .ref a :: rest)) rfl (rest := rest) rfl (by rw [hb]; exact hdg) t
  simp only [arrV_size] at h1
  exact h1 st
theorem vx_iastZ {D : va_G} {cl : List vw_C} {ws : va_W} {tys : List (ClassId × FieldType)} {a : Nat} (hexec : p.tables.exec = Jvm.exec) (hb : c.code = cc) (hK : va_K D cl tys s) (hP : va_P D cl ws H) (q0 t0 : Nat) {cA : ClassId} {n : Nat} {f : Nat → Int32} (ha : ws[q0]? = some (a, .inl (cA, n, .inl f))) (ht : tys[t0]? = some (cA, .int)) {i : Int32} {x : Int32} (hout : ¬ vp_in i n) (hdg : decode cc pc = .ok (.iastore, 1))
    (k : ∀ tx : String, tx = (toString "Index " ++ toString i ++ toString " out of bounds for length " ++ toString n : String) → vx_Note p l e R s m args below meth c H locs cells slots Q (F0 m pc ls rest) "java/lang/ArrayIndexOutOfBoundsException" tx) : W p l e R s m args below meth c H locs cells slots Q (F0 m pc ls (.int x :: .int i :: .ref a :: rest)) := by
  intro T hT X
  obtain ⟨t, st, q⟩ := k _ rfl T hT X
  refine ⟨t, ?_, q⟩
  have h1 := X.iastoreOut hexec (by rw [hT]; exact hP q0 _ ha) ((hK.2 t0 _ ht).1 n (fun j => .int (f j))) (j := i) (by show (i < 0 ∨ (arrV _ _ _).slots.size ≤ _); rw [arrV_size]; exact Classical.byContradiction hout) (g := F0 m pc ls (.int x :: .int i :: .ref a :: rest)) rfl (rest := rest) rfl (by rw [hb]; exact hdg) t
  simp only [arrV_size] at h1
  exact h1 st
theorem vx_baldZ {D : va_G} {cl : List vw_C} {ws : va_W} {tys : List (ClassId × FieldType)} {a : Nat} (hexec : p.tables.exec = Jvm.exec) (hb : c.code = cc) (hK : va_K D cl tys s) (hP : va_P D cl ws H) (q0 t0 : Nat) {cA : ClassId} {n : Nat} {f : Nat → Int32} (ha : ws[q0]? = some (a, .inl (cA, n, .inl f))) (ht : tys[t0]? = some (cA, .byte)) {i : Int32} (hout : ¬ vp_in i n) (hdg : decode cc pc = .ok (.baload, 1))
    (k : ∀ tx : String, tx = (toString "Index " ++ toString i ++ toString " out of bounds for length " ++ toString n : String) → vx_Note p l e R s m args below meth c H locs cells slots Q (F0 m pc ls rest) "java/lang/ArrayIndexOutOfBoundsException" tx) : W p l e R s m args below meth c H locs cells slots Q (F0 m pc ls (.int i :: .ref a :: rest)) := by
  intro T hT X
  obtain ⟨t, st, q⟩ := k _ rfl T hT X
  refine ⟨t, ?_, q⟩
  have h1 := X.baloadOut hexec (by rw [hT]; exact hP q0 _ ha) ((hK.2 t0 _ ht).1 n (fun j => .int (f j))) (j := i) (by show (i < 0 ∨ (arrV _ _ _).slots.size ≤ _); rw [arrV_size]; exact Classical.byContradiction hout) (g := F0 m pc ls (.int i :: .ref a :: rest)) rfl (rest := rest) rfl (by rw [hb]; exact hdg) t
  simp only [arrV_size] at h1
  exact h1 st
theorem vx_bastZ {D : va_G} {cl : List vw_C} {ws : va_W} {tys : List (ClassId × FieldType)} {a : Nat} (hexec : p.tables.exec = Jvm.exec) (hb : c.code = cc) (hK : va_K D cl tys s) (hP : va_P D cl ws H) (q0 t0 : Nat) {cA : ClassId} {n : Nat} {f : Nat → Int32} (ha : ws[q0]? = some (a, .inl (cA, n, .inl f))) (ht : tys[t0]? = some (cA, .byte)) {i : Int32} {x : Int32} (hout : ¬ vp_in i n) (hdg : decode cc pc = .ok (.bastore, 1))
    (k : ∀ tx : String, tx = (toString "Index " ++ toString i ++ toString " out of bounds for length " ++ toString n : String) → vx_Note p l e R s m args below meth c H locs cells slots Q (F0 m pc ls rest) "java/lang/ArrayIndexOutOfBoundsException" tx) : W p l e R s m args below meth c H locs cells slots Q (F0 m pc ls (.int x :: .int i :: .ref a :: rest)) := by
  intro T hT X
  obtain ⟨t, st, q⟩ := k _ rfl T hT X
  refine ⟨t, ?_, q⟩
  have h1 := X.bastoreOut hexec (by rw [hT]; exact hP q0 _ ha) ((hK.2 t0 _ ht).1 n (fun j => .int (f j))) (j := i) (by show (i < 0 ∨ (arrV _ _ _).slots.size ≤ _); rw [arrV_size]; exact Classical.byContradiction hout) (g := F0 m pc ls (.int x :: .int i :: .ref a :: rest)) rfl (rest := rest) rfl (by rw [hb]; exact hdg) t
  simp only [arrV_size] at h1
  exact h1 st
theorem vx_zaldZ {D : va_G} {cl : List vw_C} {ws : va_W} {tys : List (ClassId × FieldType)} {a : Nat} (hexec : p.tables.exec = Jvm.exec) (hb : c.code = cc) (hK : va_K D cl tys s) (hP : va_P D cl ws H) (q0 t0 : Nat) {cA : ClassId} {n : Nat} {f : Nat → Int32} (ha : ws[q0]? = some (a, .inl (cA, n, .inl f))) (ht : tys[t0]? = some (cA, .boolean)) {i : Int32} (hout : ¬ vp_in i n) (hdg : decode cc pc = .ok (.baload, 1))
    (k : ∀ tx : String, tx = (toString "Index " ++ toString i ++ toString " out of bounds for length " ++ toString n : String) → vx_Note p l e R s m args below meth c H locs cells slots Q (F0 m pc ls rest) "java/lang/ArrayIndexOutOfBoundsException" tx) : W p l e R s m args below meth c H locs cells slots Q (F0 m pc ls (.int i :: .ref a :: rest)) := by
  intro T hT X
  obtain ⟨t, st, q⟩ := k _ rfl T hT X
  refine ⟨t, ?_, q⟩
  have h1 := X.baloadOut hexec (by rw [hT]; exact hP q0 _ ha) ((hK.2 t0 _ ht).1 n (fun j => .int (f j))) (j := i) (by show (i < 0 ∨ (arrV _ _ _).slots.size ≤ _); rw [arrV_size]; exact Classical.byContradiction hout) (g := F0 m pc ls (.int i :: .ref a :: rest)) rfl (rest := rest) rfl (by rw [hb]; exact hdg) t
  simp only [arrV_size] at h1
  exact h1 st
theorem vx_zastZ {D : va_G} {cl : List vw_C} {ws : va_W} {tys : List (ClassId × FieldType)} {a : Nat} (hexec : p.tables.exec = Jvm.exec) (hb : c.code = cc) (hK : va_K D cl tys s) (hP : va_P D cl ws H) (q0 t0 : Nat) {cA : ClassId} {n : Nat} {f : Nat → Int32} (ha : ws[q0]? = some (a, .inl (cA, n, .inl f))) (ht : tys[t0]? = some (cA, .boolean)) {i : Int32} {x : Int32} (hout : ¬ vp_in i n) (hdg : decode cc pc = .ok (.bastore, 1))
    (k : ∀ tx : String, tx = (toString "Index " ++ toString i ++ toString " out of bounds for length " ++ toString n : String) → vx_Note p l e R s m args below meth c H locs cells slots Q (F0 m pc ls rest) "java/lang/ArrayIndexOutOfBoundsException" tx) : W p l e R s m args below meth c H locs cells slots Q (F0 m pc ls (.int x :: .int i :: .ref a :: rest)) := by
  intro T hT X
  obtain ⟨t, st, q⟩ := k _ rfl T hT X
  refine ⟨t, ?_, q⟩
  have h1 := X.bastoreOut hexec (by rw [hT]; exact hP q0 _ ha) ((hK.2 t0 _ ht).1 n (fun j => .int (f j))) (j := i) (by show (i < 0 ∨ (arrV _ _ _).slots.size ≤ _); rw [arrV_size]; exact Classical.byContradiction hout) (g := F0 m pc ls (.int x :: .int i :: .ref a :: rest)) rfl (rest := rest) rfl (by rw [hb]; exact hdg) t
  simp only [arrV_size] at h1
  exact h1 st
theorem vx_caldZ {D : va_G} {cl : List vw_C} {ws : va_W} {tys : List (ClassId × FieldType)} {a : Nat} (hexec : p.tables.exec = Jvm.exec) (hb : c.code = cc) (hK : va_K D cl tys s) (hP : va_P D cl ws H) (q0 t0 : Nat) {cA : ClassId} {n : Nat} {f : Nat → Int32} (ha : ws[q0]? = some (a, .inl (cA, n, .inl f))) (ht : tys[t0]? = some (cA, .char)) {i : Int32} (hout : ¬ vp_in i n) (hdg : decode cc pc = .ok (.caload, 1))
    (k : ∀ tx : String, tx = (toString "Index " ++ toString i ++ toString " out of bounds for length " ++ toString n : String) → vx_Note p l e R s m args below meth c H locs cells slots Q (F0 m pc ls rest) "java/lang/ArrayIndexOutOfBoundsException" tx) : W p l e R s m args below meth c H locs cells slots Q (F0 m pc ls (.int i :: .ref a :: rest)) := by
  intro T hT X
  obtain ⟨t, st, q⟩ := k _ rfl T hT X
  refine ⟨t, ?_, q⟩
  have h1 := X.caloadOut hexec (by rw [hT]; exact hP q0 _ ha) ((hK.2 t0 _ ht).1 n (fun j => .int (f j))) (j := i) (by show (i < 0 ∨ (arrV _ _ _).slots.size ≤ _); rw [arrV_size]; exact Classical.byContradiction hout) (g := F0 m pc ls (.int i :: .ref a :: rest)) rfl (rest := rest) rfl (by rw [hb]; exact hdg) t
  simp only [arrV_size] at h1
  exact h1 st
theorem vx_castZ {D : va_G} {cl : List vw_C} {ws : va_W} {tys : List (ClassId × FieldType)} {a : Nat} (hexec : p.tables.exec = Jvm.exec) (hb : c.code = cc) (hK : va_K D cl tys s) (hP : va_P D cl ws H) (q0 t0 : Nat) {cA : ClassId} {n : Nat} {f : Nat → Int32} (ha : ws[q0]? = some (a, .inl (cA, n, .inl f))) (ht : tys[t0]? = some (cA, .char)) {i : Int32} {x : Int32} (hout : ¬ vp_in i n) (hdg : decode cc pc = .ok (.castore, 1))
    (k : ∀ tx : String, tx = (toString "Index " ++ toString i ++ toString " out of bounds for length " ++ toString n : String) → vx_Note p l e R s m args below meth c H locs cells slots Q (F0 m pc ls rest) "java/lang/ArrayIndexOutOfBoundsException" tx) : W p l e R s m args below meth c H locs cells slots Q (F0 m pc ls (.int x :: .int i :: .ref a :: rest)) := by
  intro T hT X
  obtain ⟨t, st, q⟩ := k _ rfl T hT X
  refine ⟨t, ?_, q⟩
  have h1 := X.castoreOut hexec (by rw [hT]; exact hP q0 _ ha) ((hK.2 t0 _ ht).1 n (fun j => .int (f j))) (j := i) (by show (i < 0 ∨ (arrV _ _ _).slots.size ≤ _); rw [arrV_size]; exact Classical.byContradiction hout) (g := F0 m pc ls (.int x :: .int i :: .ref a :: rest)) rfl (rest := rest) rfl (by rw [hb]; exact hdg) t
  simp only [arrV_size] at h1
  exact h1 st
theorem vx_saldZ {D : va_G} {cl : List vw_C} {ws : va_W} {tys : List (ClassId × FieldType)} {a : Nat} (hexec : p.tables.exec = Jvm.exec) (hb : c.code = cc) (hK : va_K D cl tys s) (hP : va_P D cl ws H) (q0 t0 : Nat) {cA : ClassId} {n : Nat} {f : Nat → Int32} (ha : ws[q0]? = some (a, .inl (cA, n, .inl f))) (ht : tys[t0]? = some (cA, .short)) {i : Int32} (hout : ¬ vp_in i n) (hdg : decode cc pc = .ok (.saload, 1))
    (k : ∀ tx : String, tx = (toString "Index " ++ toString i ++ toString " out of bounds for length " ++ toString n : String) → vx_Note p l e R s m args below meth c H locs cells slots Q (F0 m pc ls rest) "java/lang/ArrayIndexOutOfBoundsException" tx) : W p l e R s m args below meth c H locs cells slots Q (F0 m pc ls (.int i :: .ref a :: rest)) := by
  intro T hT X
  obtain ⟨t, st, q⟩ := k _ rfl T hT X
  refine ⟨t, ?_, q⟩
  have h1 := X.saloadOut hexec (by rw [hT]; exact hP q0 _ ha) ((hK.2 t0 _ ht).1 n (fun j => .int (f j))) (j := i) (by show (i < 0 ∨ (arrV _ _ _).slots.size ≤ _); rw [arrV_size]; exact Classical.byContradiction hout) (g := F0 m pc ls (.int i :: .ref a :: rest)) rfl (rest := rest) rfl (by rw [hb]; exact hdg) t
  simp only [arrV_size] at h1
  exact h1 st
theorem vx_sastZ {D : va_G} {cl : List vw_C} {ws : va_W} {tys : List (ClassId × FieldType)} {a : Nat} (hexec : p.tables.exec = Jvm.exec) (hb : c.code = cc) (hK : va_K D cl tys s) (hP : va_P D cl ws H) (q0 t0 : Nat) {cA : ClassId} {n : Nat} {f : Nat → Int32} (ha : ws[q0]? = some (a, .inl (cA, n, .inl f))) (ht : tys[t0]? = some (cA, .short)) {i : Int32} {x : Int32} (hout : ¬ vp_in i n) (hdg : decode cc pc = .ok (.sastore, 1))
    (k : ∀ tx : String, tx = (toString "Index " ++ toString i ++ toString " out of bounds for length " ++ toString n : String) → vx_Note p l e R s m args below meth c H locs cells slots Q (F0 m pc ls rest) "java/lang/ArrayIndexOutOfBoundsException" tx) : W p l e R s m args below meth c H locs cells slots Q (F0 m pc ls (.int x :: .int i :: .ref a :: rest)) := by
  intro T hT X
  obtain ⟨t, st, q⟩ := k _ rfl T hT X
  refine ⟨t, ?_, q⟩
  have h1 := X.sastoreOut hexec (by rw [hT]; exact hP q0 _ ha) ((hK.2 t0 _ ht).1 n (fun j => .int (f j))) (j := i) (by show (i < 0 ∨ (arrV _ _ _).slots.size ≤ _); rw [arrV_size]; exact Classical.byContradiction hout) (g := F0 m pc ls (.int x :: .int i :: .ref a :: rest)) rfl (rest := rest) rfl (by rw [hb]; exact hdg) t
  simp only [arrV_size] at h1
  exact h1 st
theorem vx_laldZ {D : va_G} {cl : List vw_C} {ws : va_W} {tys : List (ClassId × FieldType)} {a : Nat} (hexec : p.tables.exec = Jvm.exec) (hb : c.code = cc) (hK : va_K D cl tys s) (hP : va_P D cl ws H) (q0 t0 : Nat) {cA : ClassId} {n : Nat} {f : Nat → Int64} (ha : ws[q0]? = some (a, .inl (cA, n, .inr (.inl f)))) (ht : tys[t0]? = some (cA, .long)) {i : Int32} (hout : ¬ vp_in i n) (hdg : decode cc pc = .ok (.laload, 1))
    (k : ∀ tx : String, tx = (toString "Index " ++ toString i ++ toString " out of bounds for length " ++ toString n : String) → vx_Note p l e R s m args below meth c H locs cells slots Q (F0 m pc ls rest) "java/lang/ArrayIndexOutOfBoundsException" tx) : W p l e R s m args below meth c H locs cells slots Q (F0 m pc ls (.int i :: .ref a :: rest)) := by
  intro T hT X
  obtain ⟨t, st, q⟩ := k _ rfl T hT X
  refine ⟨t, ?_, q⟩
  have h1 := X.laloadOut hexec (by rw [hT]; exact hP q0 _ ha) ((hK.2 t0 _ ht).1 n (fun j => .long (f j))) (j := i) (by show (i < 0 ∨ (arrV _ _ _).slots.size ≤ _); rw [arrV_size]; exact Classical.byContradiction hout) (g := F0 m pc ls (.int i :: .ref a :: rest)) rfl (rest := rest) rfl (by rw [hb]; exact hdg) t
  simp only [arrV_size] at h1
  exact h1 st
theorem vx_lastZ {D : va_G} {cl : List vw_C} {ws : va_W} {tys : List (ClassId × FieldType)} {a : Nat} (hexec : p.tables.exec = Jvm.exec) (hb : c.code = cc) (hK : va_K D cl tys s) (hP : va_P D cl ws H) (q0 t0 : Nat) {cA : ClassId} {n : Nat} {f : Nat → Int64} (ha : ws[q0]? = some (a, .inl (cA, n, .inr (.inl f)))) (ht : tys[t0]? = some (cA, .long)) {i : Int32} {x : Int64} (hout : ¬ vp_in i n) (hdg : decode cc pc = .ok (.lastore, 1))
    (k : ∀ tx : String, tx = (toString "Index " ++ toString i ++ toString " out of bounds for length " ++ toString n : String) → vx_Note p l e R s m args below meth c H locs cells slots Q (F0 m pc ls rest) "java/lang/ArrayIndexOutOfBoundsException" tx) : W p l e R s m args below meth c H locs cells slots Q (F0 m pc ls (.long x :: .int i :: .ref a :: rest)) := by
  intro T hT X
  obtain ⟨t, st, q⟩ := k _ rfl T hT X
  refine ⟨t, ?_, q⟩
  have h1 := X.lastoreOut hexec (by rw [hT]; exact hP q0 _ ha) ((hK.2 t0 _ ht).1 n (fun j => .long (f j))) (j := i) (by show (i < 0 ∨ (arrV _ _ _).slots.size ≤ _); rw [arrV_size]; exact Classical.byContradiction hout) (g := F0 m pc ls (.long x :: .int i :: .ref a :: rest)) rfl (rest := rest) rfl (by rw [hb]; exact hdg) t
  simp only [arrV_size] at h1
  exact h1 st
theorem vx_faldZ {D : va_G} {cl : List vw_C} {ws : va_W} {tys : List (ClassId × FieldType)} {a : Nat} (hexec : p.tables.exec = Jvm.exec) (hb : c.code = cc) (hK : va_K D cl tys s) (hP : va_P D cl ws H) (q0 t0 : Nat) {cA : ClassId} {n : Nat} {f : Nat → UInt32} (ha : ws[q0]? = some (a, .inl (cA, n, .inr (.inr (.inl f))))) (ht : tys[t0]? = some (cA, .float)) {i : Int32} (hout : ¬ vp_in i n) (hdg : decode cc pc = .ok (.faload, 1))
    (k : ∀ tx : String, tx = (toString "Index " ++ toString i ++ toString " out of bounds for length " ++ toString n : String) → vx_Note p l e R s m args below meth c H locs cells slots Q (F0 m pc ls rest) "java/lang/ArrayIndexOutOfBoundsException" tx) : W p l e R s m args below meth c H locs cells slots Q (F0 m pc ls (.int i :: .ref a :: rest)) := by
  intro T hT X
  obtain ⟨t, st, q⟩ := k _ rfl T hT X
  refine ⟨t, ?_, q⟩
  have h1 := X.faloadOut hexec (by rw [hT]; exact hP q0 _ ha) ((hK.2 t0 _ ht).1 n (fun j => .float (f j))) (j := i) (by show (i < 0 ∨ (arrV _ _ _).slots.size ≤ _); rw [arrV_size]; exact Classical.byContradiction hout) (g := F0 m pc ls (.int i :: .ref a :: rest)) rfl (rest := rest) rfl (by rw [hb]; exact hdg) t
  simp only [arrV_size] at h1
  exact h1 st
theorem vx_fastZ {D : va_G} {cl : List vw_C} {ws : va_W} {tys : List (ClassId × FieldType)} {a : Nat} (hexec : p.tables.exec = Jvm.exec) (hb : c.code = cc) (hK : va_K D cl tys s) (hP : va_P D cl ws H) (q0 t0 : Nat) {cA : ClassId} {n : Nat} {f : Nat → UInt32} (ha : ws[q0]? = some (a, .inl (cA, n, .inr (.inr (.inl f))))) (ht : tys[t0]? = some (cA, .float)) {i : Int32} {x : UInt32} (hout : ¬ vp_in i n) (hdg : decode cc pc = .ok (.fastore, 1))
    (k : ∀ tx : String, tx = (toString "Index " ++ toString i ++ toString " out of bounds for length " ++ toString n : String) → vx_Note p l e R s m args below meth c H locs cells slots Q (F0 m pc ls rest) "java/lang/ArrayIndexOutOfBoundsException" tx) : W p l e R s m args below meth c H locs cells slots Q (F0 m pc ls (.float x :: .int i :: .ref a :: rest)) := by
  intro T hT X
  obtain ⟨t, st, q⟩ := k _ rfl T hT X
  refine ⟨t, ?_, q⟩
  have h1 := X.fastoreOut hexec (by rw [hT]; exact hP q0 _ ha) ((hK.2 t0 _ ht).1 n (fun j => .float (f j))) (j := i) (by show (i < 0 ∨ (arrV _ _ _).slots.size ≤ _); rw [arrV_size]; exact Classical.byContradiction hout) (g := F0 m pc ls (.float x :: .int i :: .ref a :: rest)) rfl (rest := rest) rfl (by rw [hb]; exact hdg) t
  simp only [arrV_size] at h1
  exact h1 st
theorem vx_daldZ {D : va_G} {cl : List vw_C} {ws : va_W} {tys : List (ClassId × FieldType)} {a : Nat} (hexec : p.tables.exec = Jvm.exec) (hb : c.code = cc) (hK : va_K D cl tys s) (hP : va_P D cl ws H) (q0 t0 : Nat) {cA : ClassId} {n : Nat} {f : Nat → UInt64} (ha : ws[q0]? = some (a, .inl (cA, n, .inr (.inr (.inr (.inl f)))))) (ht : tys[t0]? = some (cA, .double)) {i : Int32} (hout : ¬ vp_in i n) (hdg : decode cc pc = .ok (.daload, 1))
    (k : ∀ tx : String, tx = (toString "Index " ++ toString i ++ toString " out of bounds for length " ++ toString n : String) → vx_Note p l e R s m args below meth c H locs cells slots Q (F0 m pc ls rest) "java/lang/ArrayIndexOutOfBoundsException" tx) : W p l e R s m args below meth c H locs cells slots Q (F0 m pc ls (.int i :: .ref a :: rest)) := by
  intro T hT X
  obtain ⟨t, st, q⟩ := k _ rfl T hT X
  refine ⟨t, ?_, q⟩
  have h1 := X.daloadOut hexec (by rw [hT]; exact hP q0 _ ha) ((hK.2 t0 _ ht).1 n (fun j => .double (f j))) (j := i) (by show (i < 0 ∨ (arrV _ _ _).slots.size ≤ _); rw [arrV_size]; exact Classical.byContradiction hout) (g := F0 m pc ls (.int i :: .ref a :: rest)) rfl (rest := rest) rfl (by rw [hb]; exact hdg) t
  simp only [arrV_size] at h1
  exact h1 st
theorem vx_dastZ {D : va_G} {cl : List vw_C} {ws : va_W} {tys : List (ClassId × FieldType)} {a : Nat} (hexec : p.tables.exec = Jvm.exec) (hb : c.code = cc) (hK : va_K D cl tys s) (hP : va_P D cl ws H) (q0 t0 : Nat) {cA : ClassId} {n : Nat} {f : Nat → UInt64} (ha : ws[q0]? = some (a, .inl (cA, n, .inr (.inr (.inr (.inl f)))))) (ht : tys[t0]? = some (cA, .double)) {i : Int32} {x : UInt64} (hout : ¬ vp_in i n) (hdg : decode cc pc = .ok (.dastore, 1))
    (k : ∀ tx : String, tx = (toString "Index " ++ toString i ++ toString " out of bounds for length " ++ toString n : String) → vx_Note p l e R s m args below meth c H locs cells slots Q (F0 m pc ls rest) "java/lang/ArrayIndexOutOfBoundsException" tx) : W p l e R s m args below meth c H locs cells slots Q (F0 m pc ls (.double x :: .int i :: .ref a :: rest)) := by
  intro T hT X
  obtain ⟨t, st, q⟩ := k _ rfl T hT X
  refine ⟨t, ?_, q⟩
  have h1 := X.dastoreOut hexec (by rw [hT]; exact hP q0 _ ha) ((hK.2 t0 _ ht).1 n (fun j => .double (f j))) (j := i) (by show (i < 0 ∨ (arrV _ _ _).slots.size ≤ _); rw [arrV_size]; exact Classical.byContradiction hout) (g := F0 m pc ls (.double x :: .int i :: .ref a :: rest)) rfl (rest := rest) rfl (by rw [hb]; exact hdg) t
  simp only [arrV_size] at h1
  exact h1 st
theorem vx_arraylengthN (hexec : p.tables.exec = Jvm.exec) (hb : c.code = cc) (hdg : decode cc pc = .ok (.arraylength, 1)) (k : vx_NoteN p l e R s m args below meth c H locs cells slots Q (F0 m pc ls rest)) : W p l e R s m args below meth c H locs cells slots Q (F0 m pc ls (.null :: rest)) := by
  intro T hT X
  obtain ⟨t, st, q⟩ := k T hT X
  exact ⟨t, X.arraylengthNull hexec (g := F0 m pc ls (.null :: rest)) rfl (rest := rest) rfl (by rw [hb]; exact hdg) t st, q⟩
theorem vx_ialoadN (hexec : p.tables.exec = Jvm.exec) (hb : c.code = cc) {i : Int32} (hdg : decode cc pc = .ok (.iaload, 1)) (k : vx_NoteN p l e R s m args below meth c H locs cells slots Q (F0 m pc ls rest)) : W p l e R s m args below meth c H locs cells slots Q (F0 m pc ls (.int i :: .null :: rest)) := by
  intro T hT X
  obtain ⟨t, st, q⟩ := k T hT X
  exact ⟨t, X.ialoadNull hexec (g := F0 m pc ls (.int i :: .null :: rest)) rfl (rest := rest) rfl (by rw [hb]; exact hdg) t st, q⟩
theorem vx_laloadN (hexec : p.tables.exec = Jvm.exec) (hb : c.code = cc) {i : Int32} (hdg : decode cc pc = .ok (.laload, 1)) (k : vx_NoteN p l e R s m args below meth c H locs cells slots Q (F0 m pc ls rest)) : W p l e R s m args below meth c H locs cells slots Q (F0 m pc ls (.int i :: .null :: rest)) := by
  intro T hT X
  obtain ⟨t, st, q⟩ := k T hT X
  exact ⟨t, X.laloadNull hexec (g := F0 m pc ls (.int i :: .null :: rest)) rfl (rest := rest) rfl (by rw [hb]; exact hdg) t st, q⟩
theorem vx_faloadN (hexec : p.tables.exec = Jvm.exec) (hb : c.code = cc) {i : Int32} (hdg : decode cc pc = .ok (.faload, 1)) (k : vx_NoteN p l e R s m args below meth c H locs cells slots Q (F0 m pc ls rest)) : W p l e R s m args below meth c H locs cells slots Q (F0 m pc ls (.int i :: .null :: rest)) := by
  intro T hT X
  obtain ⟨t, st, q⟩ := k T hT X
  exact ⟨t, X.faloadNull hexec (g := F0 m pc ls (.int i :: .null :: rest)) rfl (rest := rest) rfl (by rw [hb]; exact hdg) t st, q⟩
theorem vx_daloadN (hexec : p.tables.exec = Jvm.exec) (hb : c.code = cc) {i : Int32} (hdg : decode cc pc = .ok (.daload, 1)) (k : vx_NoteN p l e R s m args below meth c H locs cells slots Q (F0 m pc ls rest)) : W p l e R s m args below meth c H locs cells slots Q (F0 m pc ls (.int i :: .null :: rest)) := by
  intro T hT X
  obtain ⟨t, st, q⟩ := k T hT X
  exact ⟨t, X.daloadNull hexec (g := F0 m pc ls (.int i :: .null :: rest)) rfl (rest := rest) rfl (by rw [hb]; exact hdg) t st, q⟩
theorem vx_aaloadN (hexec : p.tables.exec = Jvm.exec) (hb : c.code = cc) {i : Int32} (hdg : decode cc pc = .ok (.aaload, 1)) (k : vx_NoteN p l e R s m args below meth c H locs cells slots Q (F0 m pc ls rest)) : W p l e R s m args below meth c H locs cells slots Q (F0 m pc ls (.int i :: .null :: rest)) := by
  intro T hT X
  obtain ⟨t, st, q⟩ := k T hT X
  exact ⟨t, X.aaloadNull hexec (g := F0 m pc ls (.int i :: .null :: rest)) rfl (rest := rest) rfl (by rw [hb]; exact hdg) t st, q⟩
theorem vx_baloadN (hexec : p.tables.exec = Jvm.exec) (hb : c.code = cc) {i : Int32} (hdg : decode cc pc = .ok (.baload, 1)) (k : vx_NoteN p l e R s m args below meth c H locs cells slots Q (F0 m pc ls rest)) : W p l e R s m args below meth c H locs cells slots Q (F0 m pc ls (.int i :: .null :: rest)) := by
  intro T hT X
  obtain ⟨t, st, q⟩ := k T hT X
  exact ⟨t, X.baloadNull hexec (g := F0 m pc ls (.int i :: .null :: rest)) rfl (rest := rest) rfl (by rw [hb]; exact hdg) t st, q⟩
theorem vx_caloadN (hexec : p.tables.exec = Jvm.exec) (hb : c.code = cc) {i : Int32} (hdg : decode cc pc = .ok (.caload, 1)) (k : vx_NoteN p l e R s m args below meth c H locs cells slots Q (F0 m pc ls rest)) : W p l e R s m args below meth c H locs cells slots Q (F0 m pc ls (.int i :: .null :: rest)) := by
  intro T hT X
  obtain ⟨t, st, q⟩ := k T hT X
  exact ⟨t, X.caloadNull hexec (g := F0 m pc ls (.int i :: .null :: rest)) rfl (rest := rest) rfl (by rw [hb]; exact hdg) t st, q⟩
theorem vx_saloadN (hexec : p.tables.exec = Jvm.exec) (hb : c.code = cc) {i : Int32} (hdg : decode cc pc = .ok (.saload, 1)) (k : vx_NoteN p l e R s m args below meth c H locs cells slots Q (F0 m pc ls rest)) : W p l e R s m args below meth c H locs cells slots Q (F0 m pc ls (.int i :: .null :: rest)) := by
  intro T hT X
  obtain ⟨t, st, q⟩ := k T hT X
  exact ⟨t, X.saloadNull hexec (g := F0 m pc ls (.int i :: .null :: rest)) rfl (rest := rest) rfl (by rw [hb]; exact hdg) t st, q⟩
theorem vx_iastoreN (hexec : p.tables.exec = Jvm.exec) (hb : c.code = cc) {x : Int32} {i : Int32} (hdg : decode cc pc = .ok (.iastore, 1)) (k : vx_NoteN p l e R s m args below meth c H locs cells slots Q (F0 m pc ls rest)) : W p l e R s m args below meth c H locs cells slots Q (F0 m pc ls (.int x :: .int i :: .null :: rest)) := by
  intro T hT X
  obtain ⟨t, st, q⟩ := k T hT X
  exact ⟨t, X.iastoreNull hexec (g := F0 m pc ls (.int x :: .int i :: .null :: rest)) rfl (rest := rest) rfl (by rw [hb]; exact hdg) t st, q⟩
theorem vx_lastoreN (hexec : p.tables.exec = Jvm.exec) (hb : c.code = cc) {x : Int64} {i : Int32} (hdg : decode cc pc = .ok (.lastore, 1)) (k : vx_NoteN p l e R s m args below meth c H locs cells slots Q (F0 m pc ls rest)) : W p l e R s m args below meth c H locs cells slots Q (F0 m pc ls (.long x :: .int i :: .null :: rest)) := by
  intro T hT X
  obtain ⟨t, st, q⟩ := k T hT X
  exact ⟨t, X.lastoreNull hexec (g := F0 m pc ls (.long x :: .int i :: .null :: rest)) rfl (rest := rest) rfl (by rw [hb]; exact hdg) t st, q⟩
theorem vx_fastoreN (hexec : p.tables.exec = Jvm.exec) (hb : c.code = cc) {x : UInt32} {i : Int32} (hdg : decode cc pc = .ok (.fastore, 1)) (k : vx_NoteN p l e R s m args below meth c H locs cells slots Q (F0 m pc ls rest)) : W p l e R s m args below meth c H locs cells slots Q (F0 m pc ls (.float x :: .int i :: .null :: rest)) := by
  intro T hT X
  obtain ⟨t, st, q⟩ := k T hT X
  exact ⟨t, X.fastoreNull hexec (g := F0 m pc ls (.float x :: .int i :: .null :: rest)) rfl (rest := rest) rfl (by rw [hb]; exact hdg) t st, q⟩
theorem vx_dastoreN (hexec : p.tables.exec = Jvm.exec) (hb : c.code = cc) {x : UInt64} {i : Int32} (hdg : decode cc pc = .ok (.dastore, 1)) (k : vx_NoteN p l e R s m args below meth c H locs cells slots Q (F0 m pc ls rest)) : W p l e R s m args below meth c H locs cells slots Q (F0 m pc ls (.double x :: .int i :: .null :: rest)) := by
  intro T hT X
  obtain ⟨t, st, q⟩ := k T hT X
  exact ⟨t, X.dastoreNull hexec (g := F0 m pc ls (.double x :: .int i :: .null :: rest)) rfl (rest := rest) rfl (by rw [hb]; exact hdg) t st, q⟩
theorem vx_bastoreN (hexec : p.tables.exec = Jvm.exec) (hb : c.code = cc) {x : Int32} {i : Int32} (hdg : decode cc pc = .ok (.bastore, 1)) (k : vx_NoteN p l e R s m args below meth c H locs cells slots Q (F0 m pc ls rest)) : W p l e R s m args below meth c H locs cells slots Q (F0 m pc ls (.int x :: .int i :: .null :: rest)) := by
  intro T hT X
  obtain ⟨t, st, q⟩ := k T hT X
  exact ⟨t, X.bastoreNull hexec (g := F0 m pc ls (.int x :: .int i :: .null :: rest)) rfl (rest := rest) rfl (by rw [hb]; exact hdg) t st, q⟩
theorem vx_castoreN (hexec : p.tables.exec = Jvm.exec) (hb : c.code = cc) {x : Int32} {i : Int32} (hdg : decode cc pc = .ok (.castore, 1)) (k : vx_NoteN p l e R s m args below meth c H locs cells slots Q (F0 m pc ls rest)) : W p l e R s m args below meth c H locs cells slots Q (F0 m pc ls (.int x :: .int i :: .null :: rest)) := by
  intro T hT X
  obtain ⟨t, st, q⟩ := k T hT X
  exact ⟨t, X.castoreNull hexec (g := F0 m pc ls (.int x :: .int i :: .null :: rest)) rfl (rest := rest) rfl (by rw [hb]; exact hdg) t st, q⟩
theorem vx_sastoreN (hexec : p.tables.exec = Jvm.exec) (hb : c.code = cc) {x : Int32} {i : Int32} (hdg : decode cc pc = .ok (.sastore, 1)) (k : vx_NoteN p l e R s m args below meth c H locs cells slots Q (F0 m pc ls rest)) : W p l e R s m args below meth c H locs cells slots Q (F0 m pc ls (.int x :: .int i :: .null :: rest)) := by
  intro T hT X
  obtain ⟨t, st, q⟩ := k T hT X
  exact ⟨t, X.sastoreNull hexec (g := F0 m pc ls (.int x :: .int i :: .null :: rest)) rfl (rest := rest) rfl (by rw [hb]; exact hdg) t st, q⟩
theorem vx_invokeN {own C : String} {index maxL : Nat} {y : MethodName} {bytes : ByteArray} {ret : Option FieldType} (hexec : p.tables.exec = Jvm.exec) (hb : c.code = cc) (hown : s.vm.findClass own = some m.cls) (hlink : (Cond.methodLink own index y).before args s = true) (hinst : (Cond.instanceMethod y).before args s = true) (hcode : (Cond.code y bytes maxL ret).before args s = true) (hsel : (Cond.selects C y y).before args s = true)
    (hx : y.cls ≠ "java/lang/invoke/MethodHandle" ∧ y.cls ≠ "java/lang/invoke/VarHandle") {As : List Value} (hlen : (parseMethodDescriptor y.desc).map (fun d => d.parameters.length) = some As.length) (hdg : decode cc pc = .ok (.invokevirtual index, 3))
    (k : vx_NoteN p l e R s m args below meth c H locs cells slots Q (F0 m pc ls rest)) {st0 : List Value} (hst : st0 = As.reverse ++ .null :: rest) : W p l e R s m args below meth c H locs cells slots Q (F0 m pc ls st0) := by
  intro T hT X
  obtain ⟨r0, r, hn, hrm, hstR, hsigR⟩ := va_Decl.of hinst hcode
  obtain ⟨c2, r2, m2, q1, q2, q3, q4, kP, hkP, hkPi⟩ := Cond.selects_spec hsel
  cases hn.symm.trans q3
  have hl9 : As.length = r.sig.parameters.length := by
    rw [hsigR] at hlen
    exact (Option.some.inj hlen).symm
  obtain ⟨vm', X1, st1⟩ := X.invokevirtualNull hexec hown hlink hn hrm hstR hkP hkPi hx (g := F0 m pc ls st0) rfl (argsL := As) (rest := rest) hl9 hst (by rw [hb]; exact hdg)
  obtain ⟨t, st, q⟩ := k (T.setVm vm') hT X1
  exact ⟨t, st1 t st, q⟩
theorem vx_newarrayZ {atype : ArrayType} (hexec : p.tables.exec = Jvm.exec) (hb : c.code = cc) {n : Int32} (h0 : n < 0) (hdg : decode cc pc = .ok (.newarray atype, 2)) (k : ∀ tx : String, tx = toString n → vx_Note p l e R s m args below meth c H locs cells slots Q (F0 m pc ls rest) "java/lang/NegativeArraySizeException" tx) : W p l e R s m args below meth c H locs cells slots Q (F0 m pc ls (.int n :: rest)) := by
  intro T hT X
  obtain ⟨t, st, q⟩ := k _ rfl T hT X
  exact ⟨t, X.newarrayNegative hexec (g := F0 m pc ls (.int n :: rest)) rfl h0 (rest := rest) rfl (by rw [hb]; exact hdg) t st, q⟩
end
end VXM
/-! ===== END ===== -/
/-! ===== BEGIN an exception as an object: made, kept, thrown later (no traces kept) ===== -/
section VXK
variable {p : Program} {l : Launch} {e : Env} {R : Room} {s : State} {m₀ : MethodId} {args : Array Value} {below : List Frame} {meth : Method} {c : Code} {W : State} {locs : List Loc} {cells slots : Nat}
set_option maxHeartbeats 1000000 in
theorem vx_ctorMadeS (X : Stand p l e R s m₀ args below meth c W locs cells slots) (hexec : p.tables.exec = Jvm.exec) (htr : e.platform.stackTraces = false) {own cls : String} {names : List String} {ic : Nat}
    (hown : s.vm.findClass own = some m₀.cls) (hcls : Bundle.fit cls = true) (hnames : ∀ n ∈ names, Bundle.fit n = true)
    (h : ∀ a ∈ Bundle.ownAtoms own ic cls names, a.before args s = true)
    (hlocs : ∀ x ∈ locs, ∀ cell, s.heap[x.base]? = some cell → cell.vm.isStatics = false)
    {a : Addr} {cX : ClassId} {kX : Class} (hfoundX : s.vm.findClass cls = some cX) (hkX : s.vm.classes[cX]? = some kX) (hcell : W.heap[a]? = some (freshCell cX kX)) (hnew : s.heap.size ≤ a)
    {msg : Value} (hmsg : msg.isRef = true)
    {g : JFrame} (hg : g.method = m₀) (hsize : g.locals.size = c.maxLocals) {rest : List Value} (hstack : g.stack = msg :: .ref a :: .ref a :: rest)
    (hd6 : decode c.code g.pc = .ok (.invokespecial ic, 3))
    (hRframes : names.length + 3 < R.frames) (hRlocals : 2 * g.monitorRoom + ((Value.ref a :: rest).map fun v => v.category).sum + (13 * (names.length + 1) + 42) ≤ R.locals) :
    ∃ (V : State) (ce : Cell) (L : List Loc), Stand p l e R s m₀ args below meth c (V.setCell a ce) (locs ++ L) cells slots ∧ (∀ y ∈ L, y.base = a) ∧ a < V.heap.size ∧ ce.cls = cX ∧ ce.vm = .none ∧
      ∀ target, Steps p.tables e below ((V.setCell a ce).setTop { g with stack := .ref a :: rest, pc := g.pc + 3 }) target → Steps p.tables e below (W.setTop g) target := by
  have howns : e.platform.frameOwnsMonitors = true := by rw [X.admits.platform]
  have hfin : e.platform.finalization = false := by rw [X.admits.platform]
  have hpl : e.platform.magicAccessors = ({} : Platform).magicAccessors := by rw [X.admits.platform]
  have a' : ∀ x, x ∈ Bundle.ownAtoms own ic cls names → x.holds args s none s [] = true := fun x hx => h x hx
  obtain ⟨T, Z0, L, -, Y⟩ := ThrowableC.of_atoms (args := args) howns hfin hpl (fun x hx => h x (by simp [Bundle.ownAtoms, hx]))
  obtain ⟨Z, M, LZ, LM, hnZ⟩ := Init0T.ofS_atoms (args := args) hpl L Y (fun x hx => h x (by simp [Bundle.ownAtoms, hx]))
  obtain ⟨P1, Ps, hlen, L1, hL, hP1m, hlink1, hlink⟩ := Bundle.chainS (args := args) hpl hnZ names cls hcls hnames (fun x hx => h x (by simp [Bundle.ownAtoms, hx]))
  have hfound : s.vm.findClass cls = some P1.m.cls := findClass_of_methodNamed hP1m
  cases Option.some.inj (hfoundX.symm.trans hfound)
  obtain ⟨c1, kX', hc1, hk, hord, -, -, hn6⟩ := Cond.instantiable_spec (a' (.instantiable cls 6) (by simp [Bundle.ownAtoms]))
  cases Option.some.inj (hc1.symm.trans hfound)
  cases Option.some.inj (hkX.symm.trans hk)
  have hsel0 : selectMethod e.platform s.vm P1.m.cls T.fill0 = .method T.fill0 := by
    obtain ⟨c2, r2, m2, q1, q2, q3, q4, -⟩ := Cond.selects_spec (a' (.selects cls Bundle.tFill0 Bundle.tFill0) (by simp [Bundle.ownAtoms]))
    cases Option.some.inj (q1.symm.trans hfound)
    cases Option.some.inj (q2.symm.trans (State.methodFound?_of_named Y.fill0 (by decide)))
    cases Option.some.inj (q3.symm.trans Y.fill0)
    rw [Launch.admits_selectMethod X.admits]; exact q4
  have hselF : selectMethod e.platform s.vm P1.m.cls T.fill = .method T.fill := by
    obtain ⟨c2, r2, m2, q1, q2, q3, q4, -⟩ := Cond.selects_spec (a' (.selects cls Bundle.tFill Bundle.tFill) (by simp [Bundle.ownAtoms]))
    cases Option.some.inj (q1.symm.trans hfound)
    cases Option.some.inj (q2.symm.trans (State.methodFound?_of_named Y.fill (by decide)))
    cases Option.some.inj (q3.symm.trans Y.fill)
    rw [Launch.admits_selectMethod X.admits]; exact q4
  obtain ⟨cellS0, hcS0, hiss⟩ := Y.statics
  obtain ⟨u0, hu0⟩ := Cond.staticRefV Y.unassigned L.unassignedStatic L.statics hcS0 hiss (a' (.isRef (.static Bundle.tN "UNASSIGNED_STACK" Bundle.steD)) (by simp [Bundle.ownAtoms]))
  obtain ⟨sen, hsen⟩ := Cond.staticRefV Y.sentinel L.sentinelStatic L.statics hcS0 hiss (a' (.isRef (.static Bundle.tN "SUPPRESSED_SENTINEL" Bundle.listD)) (by simp [Bundle.ownAtoms]))
  obtain ⟨ci198, i198, fB, hk198, hg198, ha198, hsB, -, hnB, htB, hffB⟩ := Cond.ownField (t := .object "java/lang/Object") Y.found L.cls (by decide +kernel) (a' (.fieldLink Bundle.tN 198 Bundle.tN "backtrace" "Ljava/lang/Object;") (by simp [Bundle.ownAtoms])) (a' (.lays Bundle.tN Bundle.tN "backtrace" "Ljava/lang/Object;") (by simp [Bundle.ownAtoms])) e.platform hpl
  obtain ⟨cellS, hcS', heS, -, hkeep⟩ := X.same.2.2.2.2.2 T.aS cellS0 hcS0
  have hcellS : W.heap[T.aS]? = some cellS := hcS'
  have hout' : ∀ i, (⟨T.aS, i⟩ : Loc) ∉ locs := fun i hmem => by
    have := hlocs _ hmem cellS0 hcS0
    rw [hiss] at this; cases this
  have hknownS : cellS.vm ≠ .unknown := by
    rw [heS]; intro hu
    rw [show cellS0.vm = .unknown from hu] at hiss
    cases hiss
  have hneS : T.aS ≠ a := Nat.ne_of_lt (Nat.lt_of_lt_of_le (Array.getElem?_eq_some_iff.mp hcS0).1 hnew)
  obtain ⟨iM, hffM⟩ := Y.msg
  obtain ⟨tyC, dC, hdC, hdnC⟩ := Cond.laysAt hfound hk Y.cause (a' (.lays cls Bundle.tN "cause" "Ljava/lang/Throwable;") (by simp [Bundle.ownAtoms]))
  obtain ⟨tyS, dS, hdS, hdnS⟩ := Cond.laysAt hfound hk Y.stack (a' (.lays cls Bundle.tN "stackTrace" Bundle.steD) (by simp [Bundle.ownAtoms]))
  obtain ⟨tyP, dP, hdP, hdnP⟩ := Cond.laysAt hfound hk Y.supp (a' (.lays cls Bundle.tN "suppressedExceptions" Bundle.listD) (by simp [Bundle.ownAtoms]))
  obtain ⟨tyM, dM, hdM, hdnM⟩ := Cond.laysAt hfound hk hffM (a' (.lays cls Bundle.tN "detailMessage" "Ljava/lang/String;") (by simp [Bundle.ownAtoms]))
  obtain ⟨tyB, dB, hdB, hdnB⟩ := Cond.laysAt hfound hk hffB (a' (.lays cls Bundle.tN "backtrace" "Ljava/lang/Object;") (by simp [Bundle.ownAtoms]))
  have bC := Cond.laysApart hdB hdC hdnB hdnC (by rw [hnB, Y.causeName]; decide)
  have bS := Cond.laysApart hdB hdS hdnB hdnS (by rw [hnB, Y.stackName]; decide)
  have bP := Cond.laysApart hdB hdP hdnB hdnP (by rw [hnB, Y.suppName]; decide)
  have hskip : SkipFacts T e.platform s (fun u => u) u0 ((preparedCellV T.toThrowableT (freshCell P1.m.cls kX) a u0 sen).withEntry W.cur) :=
    ⟨{ ci198 := ci198, i198 := i198, fBack := fB }, ⟨hk198, hg198, ha198, hsB⟩, by
      have := fresh_default (c := P1.m.cls) tyB
      rw [htB] at this
      simpa [preparedCellV, Cell.setSlot, Cell.withEntry, Array.getElem?_setIfInBounds, bC, bS, bP, bC.symm, bS.symm, bP.symm, defaultValue] using this, fun _ _ => rfl⟩
  obtain ⟨tm, methC, cdC, kC, vm₁, hnC, -, -, -, -, -, -, -, hW₁, st1⟩ := Steps.initColdS (tb := p.tables) (e := e) (below := below) (s := s) (U := W) X.here hexec X.warmed hpl hown (t := Bundle.initS cls) rfl rfl (Bundle.fit_spec hcls).2
    (a' (.methodLink own ic (Bundle.initS cls)) (by simp [Bundle.ownAtoms])) (h (.instanceMethod (Bundle.initS cls)) (by cases names <;> simp [Bundle.ownAtoms, Bundle.chainSAtoms, Bundle.passSAtoms])) (bytes := Bundle.six) (maxL := 2) (h (.code (Bundle.initS cls) Bundle.six 2 none) (by cases names <;> simp [Bundle.ownAtoms, Bundle.chainSAtoms, Bundle.passSAtoms]))
    (f := g) hg (a := a) (msg := msg) (rest := .ref a :: rest) hstack hd6
  cases Option.some.inj (hnC.symm.trans hP1m)
  have X₁ := X.noted hW₁
  obtain ⟨vm₂, X₂, st2⟩ := X₁.ctorMessageOffV hexec (g := { g with stack := .ref a :: rest }) hg hsize T L Z LZ M LM (P1 :: Ps)
    (fun P hP => by rcases List.mem_cons.mp hP with rfl | hP; exact L1; exact hL P hP) ⟨hlink1, hlink⟩ (u0 := u0) (sen := sen) (self := a) hmsg (cell := freshCell P1.m.cls kX) (cellS := cellS)
    hcell (fun _ => by simp) (by simp) rfl rfl hsel0 hselF hcellS hneS hknownS (by rw [hkeep _ (hout' _)]; exact hu0) (by rw [hkeep _ (hout' _)]; exact hsen)
    (Takes.of_laid hk hord tyC (by rw [Y.causeType]; rfl)) (Takes.of_laid hk hord tyS (by rw [Y.stackType]; exact fits_refV_array _ u0)) (Takes.of_laid hk hord tyP (by rw [Y.suppType]; exact fits_refV_object _ sen))
    (Takes.of_laid hk hord tyM (by rw [Y.msgType]; exact fits_refV_object _ ⟨msg, hmsg⟩)) Y.objLocals hskip htr [] hd6
    (by simp only [List.length_cons, hlen]; omega) (by simp only [List.length_cons, hlen]; exact hRlocals)
  have hlt : a < ((W.setVm vm₁).setVm vm₂).heap.size := (Array.getElem?_eq_some_iff.mp hcell).1
  refine ⟨(W.setVm vm₁).setVm vm₂, _, _, X₂, fun y hy => ?_, hlt, rfl, rfl, fun target hwalk => st1 _ (fun acts => ?_)⟩
  · simp only [List.mem_cons, List.not_mem_nil, or_false] at hy
    rcases hy with rfl | rfl | rfl | rfl | rfl <;> rfl
  · rw [doInvoke_state]
    exact st2 _ hwalk
set_option maxHeartbeats 1000000 in
theorem vx_ctorMade0 (X : Stand p l e R s m₀ args below meth c W locs cells slots) (hexec : p.tables.exec = Jvm.exec) (htr : e.platform.stackTraces = false) {own cls : String} {names : List String} {ic : Nat}
    (hown : s.vm.findClass own = some m₀.cls) (hcls : Bundle.fit cls = true) (hnames : ∀ n ∈ names, Bundle.fit n = true)
    (h : ∀ a ∈ Bundle.ownAtoms0 own ic cls names, a.before args s = true)
    (hlocs : ∀ x ∈ locs, ∀ cell, s.heap[x.base]? = some cell → cell.vm.isStatics = false)
    {a : Addr} {cX : ClassId} {kX : Class} (hfoundX : s.vm.findClass cls = some cX) (hkX : s.vm.classes[cX]? = some kX) (hcell : W.heap[a]? = some (freshCell cX kX)) (hnew : s.heap.size ≤ a)
    {g : JFrame} (hg : g.method = m₀) (hsize : g.locals.size = c.maxLocals) {rest : List Value} (hstack : g.stack = .ref a :: .ref a :: rest)
    (hd6 : decode c.code g.pc = .ok (.invokespecial ic, 3))
    (hRframes : names.length + 3 < R.frames) (hRlocals : 2 * g.monitorRoom + ((Value.ref a :: rest).map fun v => v.category).sum + (13 * (names.length + 1) + 41) ≤ R.locals) :
    ∃ (V : State) (ce : Cell) (L : List Loc), Stand p l e R s m₀ args below meth c (V.setCell a ce) (locs ++ L) cells slots ∧ (∀ y ∈ L, y.base = a) ∧ a < V.heap.size ∧ ce.cls = cX ∧ ce.vm = .none ∧
      ∀ target, Steps p.tables e below ((V.setCell a ce).setTop { g with stack := .ref a :: rest, pc := g.pc + 3 }) target → Steps p.tables e below (W.setTop g) target := by
  have howns : e.platform.frameOwnsMonitors = true := by rw [X.admits.platform]
  have hfin : e.platform.finalization = false := by rw [X.admits.platform]
  have hpl : e.platform.magicAccessors = ({} : Platform).magicAccessors := by rw [X.admits.platform]
  have a' : ∀ x, x ∈ Bundle.ownAtoms0 own ic cls names → x.holds args s none s [] = true := fun x hx => h x hx
  obtain ⟨T, Z, L, LZ, Y⟩ := ThrowableC.of_atoms (args := args) howns hfin hpl (fun x hx => h x (by simp [Bundle.ownAtoms0, hx]))
  obtain ⟨P1, Ps, hlen, L1, hL, hP1m, hlink1, hlink⟩ := Bundle.chain0 (args := args) hpl Y.init0 names cls hcls hnames (fun x hx => h x (by simp [Bundle.ownAtoms0, hx]))
  have hfound : s.vm.findClass cls = some P1.m.cls := findClass_of_methodNamed hP1m
  cases Option.some.inj (hfoundX.symm.trans hfound)
  obtain ⟨c1, kX', hc1, hk, hord, -, -, hn6⟩ := Cond.instantiable_spec (a' (.instantiable cls 6) (by simp [Bundle.ownAtoms0]))
  cases Option.some.inj (hc1.symm.trans hfound)
  cases Option.some.inj (hkX.symm.trans hk)
  have hsel0 : selectMethod e.platform s.vm P1.m.cls T.fill0 = .method T.fill0 := by
    obtain ⟨c2, r2, m2, q1, q2, q3, q4, -⟩ := Cond.selects_spec (a' (.selects cls Bundle.tFill0 Bundle.tFill0) (by simp [Bundle.ownAtoms0]))
    cases Option.some.inj (q1.symm.trans hfound)
    cases Option.some.inj (q2.symm.trans (State.methodFound?_of_named Y.fill0 (by decide)))
    cases Option.some.inj (q3.symm.trans Y.fill0)
    rw [Launch.admits_selectMethod X.admits]; exact q4
  have hselF : selectMethod e.platform s.vm P1.m.cls T.fill = .method T.fill := by
    obtain ⟨c2, r2, m2, q1, q2, q3, q4, -⟩ := Cond.selects_spec (a' (.selects cls Bundle.tFill Bundle.tFill) (by simp [Bundle.ownAtoms0]))
    cases Option.some.inj (q1.symm.trans hfound)
    cases Option.some.inj (q2.symm.trans (State.methodFound?_of_named Y.fill (by decide)))
    cases Option.some.inj (q3.symm.trans Y.fill)
    rw [Launch.admits_selectMethod X.admits]; exact q4
  obtain ⟨cellS0, hcS0, hiss⟩ := Y.statics
  obtain ⟨u0, hu0⟩ := Cond.staticRefV Y.unassigned L.unassignedStatic L.statics hcS0 hiss (a' (.isRef (.static Bundle.tN "UNASSIGNED_STACK" Bundle.steD)) (by simp [Bundle.ownAtoms0]))
  obtain ⟨sen, hsen⟩ := Cond.staticRefV Y.sentinel L.sentinelStatic L.statics hcS0 hiss (a' (.isRef (.static Bundle.tN "SUPPRESSED_SENTINEL" Bundle.listD)) (by simp [Bundle.ownAtoms0]))
  obtain ⟨ci198, i198, fB, hk198, hg198, ha198, hsB, -, hnB, htB, hffB⟩ := Cond.ownField (t := .object "java/lang/Object") Y.found L.cls (by decide +kernel) (a' (.fieldLink Bundle.tN 198 Bundle.tN "backtrace" "Ljava/lang/Object;") (by simp [Bundle.ownAtoms0])) (a' (.lays Bundle.tN Bundle.tN "backtrace" "Ljava/lang/Object;") (by simp [Bundle.ownAtoms0])) e.platform hpl
  obtain ⟨cellS, hcS', heS, -, hkeep⟩ := X.same.2.2.2.2.2 T.aS cellS0 hcS0
  have hcellS : W.heap[T.aS]? = some cellS := hcS'
  have hout' : ∀ i, (⟨T.aS, i⟩ : Loc) ∉ locs := fun i hmem => by
    have := hlocs _ hmem cellS0 hcS0
    rw [hiss] at this; cases this
  have hknownS : cellS.vm ≠ .unknown := by
    rw [heS]; intro hu
    rw [show cellS0.vm = .unknown from hu] at hiss
    cases hiss
  have hneS : T.aS ≠ a := Nat.ne_of_lt (Nat.lt_of_lt_of_le (Array.getElem?_eq_some_iff.mp hcS0).1 hnew)
  obtain ⟨iM, hffM⟩ := Y.msg
  obtain ⟨tyC, dC, hdC, hdnC⟩ := Cond.laysAt hfound hk Y.cause (a' (.lays cls Bundle.tN "cause" "Ljava/lang/Throwable;") (by simp [Bundle.ownAtoms0]))
  obtain ⟨tyS, dS, hdS, hdnS⟩ := Cond.laysAt hfound hk Y.stack (a' (.lays cls Bundle.tN "stackTrace" Bundle.steD) (by simp [Bundle.ownAtoms0]))
  obtain ⟨tyP, dP, hdP, hdnP⟩ := Cond.laysAt hfound hk Y.supp (a' (.lays cls Bundle.tN "suppressedExceptions" Bundle.listD) (by simp [Bundle.ownAtoms0]))
  obtain ⟨tyM, dM, hdM, hdnM⟩ := Cond.laysAt hfound hk hffM (a' (.lays cls Bundle.tN "detailMessage" "Ljava/lang/String;") (by simp [Bundle.ownAtoms0]))
  obtain ⟨tyB, dB, hdB, hdnB⟩ := Cond.laysAt hfound hk hffB (a' (.lays cls Bundle.tN "backtrace" "Ljava/lang/Object;") (by simp [Bundle.ownAtoms0]))
  have bC := Cond.laysApart hdB hdC hdnB hdnC (by rw [hnB, Y.causeName]; decide)
  have bS := Cond.laysApart hdB hdS hdnB hdnS (by rw [hnB, Y.stackName]; decide)
  have bP := Cond.laysApart hdB hdP hdnB hdnP (by rw [hnB, Y.suppName]; decide)
  have hskip : SkipFacts T e.platform s (fun u => u) u0 ((preparedCellV T.toThrowableT (freshCell P1.m.cls kX) a u0 sen).withEntry W.cur) :=
    ⟨{ ci198 := ci198, i198 := i198, fBack := fB }, ⟨hk198, hg198, ha198, hsB⟩, by
      have := fresh_default (c := P1.m.cls) tyB
      rw [htB] at this
      simpa [preparedCellV, Cell.setSlot, Cell.withEntry, Array.getElem?_setIfInBounds, bC, bS, bP, bC.symm, bS.symm, bP.symm, defaultValue] using this, fun _ _ => rfl⟩
  obtain ⟨tm, methC, cdC, kC, vm₁, hnC, -, -, -, -, -, -, -, hW₁, st1⟩ := Steps.initCold (tb := p.tables) (e := e) (below := below) (s := s) (U := W) X.here hexec X.warmed hpl hown (t := Bundle.init0 cls) rfl rfl (Bundle.fit_spec hcls).2
    (a' (.methodLink own ic (Bundle.init0 cls)) (by simp [Bundle.ownAtoms0])) (h (.instanceMethod (Bundle.init0 cls)) (by cases names <;> simp [Bundle.ownAtoms0, Bundle.chain0Atoms, Bundle.passAtoms])) (bytes := Bundle.five) (maxL := 1) (h (.code (Bundle.init0 cls) Bundle.five 1 none) (by cases names <;> simp [Bundle.ownAtoms0, Bundle.chain0Atoms, Bundle.passAtoms]))
    (f := g) hg (a := a) (rest := .ref a :: rest) hstack hd6
  cases Option.some.inj (hnC.symm.trans hP1m)
  have X₁ := X.noted hW₁
  obtain ⟨vm₂, X₂, st2⟩ := X₁.ctorPlainOffV hexec (g := { g with stack := .ref a :: rest }) hg hsize T L Z LZ (P1 :: Ps)
    (fun P hP => by rcases List.mem_cons.mp hP with rfl | hP; exact L1; exact hL P hP) ⟨hlink1, hlink⟩ (u0 := u0) (sen := sen) (self := a) (cell := freshCell P1.m.cls kX) (cellS := cellS)
    hcell (fun _ => by simp) (by simp) rfl rfl hsel0 hselF hcellS hneS hknownS (by rw [hkeep _ (hout' _)]; exact hu0) (by rw [hkeep _ (hout' _)]; exact hsen)
    (Takes.of_laid hk hord tyC (by rw [Y.causeType]; rfl)) (Takes.of_laid hk hord tyS (by rw [Y.stackType]; exact fits_refV_array _ u0)) (Takes.of_laid hk hord tyP (by rw [Y.suppType]; exact fits_refV_object _ sen)) Y.objLocals hskip htr [] hd6
    (by simp only [List.length_cons, hlen]; omega) (by simp only [List.length_cons, hlen]; exact hRlocals)
  have hlt : a < ((W.setVm vm₁).setVm vm₂).heap.size := (Array.getElem?_eq_some_iff.mp hcell).1
  refine ⟨(W.setVm vm₁).setVm vm₂, _, _, X₂, fun y hy => ?_, hlt, rfl, rfl, fun target hwalk => st1 _ (fun acts => ?_)⟩
  · simp only [List.mem_cons, List.not_mem_nil, or_false] at hy
    rcases hy with rfl | rfl | rfl | rfl <;> rfl
  · rw [doInvoke_state]
    exact st2 _ hwalk
end VXK
section VXK2
variable {p : Program} {l : Launch} {e : Env} {R : Room} {s : State} {m : MethodId} {args : Array Value} {below : List Frame} {meth : Method} {c : Code} {H : Heap} {locs : List Loc} {cells slots : Nat} {Q : State → Prop}
variable {ls : Array Slot} {rest : List Value} {D : va_G} {cl : List vw_C} {tys : List (ClassId × FieldType)} {ws : va_W}
/-- 'new E("text")' that isn't thrown at once: the object goes on the stack -/
theorem vx_makeS {cc : ByteArray} {pc : Nat} (hexec : p.tables.exec = Jvm.exec) (hb : c.code = cc) (hl : l.stackTraces = false) {own cls text : String} {names : List String} {ik is ic sa ci : Nat} {A : Nat → Prop} {T0 : u_T}
    (hown : s.vm.findClass own = some m.cls) (hcls : Bundle.fit cls = true) (hnames : ∀ n ∈ names, Bundle.fit n = true)
    (hk : (Cond.classLink own ik cls).before args s = true) (hini : (Cond.initialized cls).before args s = true) (hstr : vk_R own is text sa s) (hat : ∀ w ∈ vx_atS own ic cls names, w.before args s = true)
    (hgood : ∀ w ∈ Cond.classLink own ik cls :: Cond.initialized cls :: vx_atS own ic cls names, vx_ot w = true)
    (hU : vx_Zq Bundle.tN "UNASSIGNED_STACK" Bundle.steD A s s.heap) (hN : vx_Zq Bundle.tN "SUPPRESSED_SENTINEL" Bundle.listD A s s.heap) (hS : va_S A s.heap H locs) (hsize : ls.size = c.maxLocals)
    (d0 : decode cc pc = .ok (.new ik, 3)) (d3 : decode cc (pc + 3) = .ok (.dup, 1)) (d4 : decode cc (pc + 4) = .ok (.ldc is, 2)) (d6 : decode cc (pc + 6) = .ok (.invokespecial ic, 3))
    (hK : va_K D cl tys s) (hP : va_P D cl ws H) (hD : va_D A ws) (hA : ∀ q, s.heap.size ≤ q → A q) (hc : cl[ci]? = some (cls, T0, 0))
    (hRframes : names.length + 3 < R.frames) (hRlocals : (rest.map fun v => v.category).sum + (13 * (names.length + 1) + 43) ≤ R.locals) (hRcells : cells + 1 ≤ R.cells) (hRslots : slots + 6 ≤ R.slots)
    (kk : ∀ (q : Nat) (H1 : Heap), va_P D cl (ws ++ [(q, .inr (ci, []))]) H1 → va_D A (ws ++ [(q, .inr (ci, []))]) → va_S A s.heap H1 locs → W p l e R s m args below meth c H1 locs (cells + 1) (slots + 6) Q (F0 m (pc + 9) ls (.ref q :: rest))) :
    W p l e R s m args below meth c H locs cells slots Q (F0 m pc ls rest) := by
  intro T hT X
  subst hT
  have htr : e.platform.stackTraces = false := (show e.platform.stackTraces = l.stackTraces by rw [X.admits.platform]).trans hl
  have Y := vx_rebase X (R' := { frames := R.frames, locals := R.locals, cells := 1, slots := 6 }) (Nat.le_refl _) (Nat.le_refl _) hRcells hRslots
  obtain ⟨s', hA'⟩ : ∃ z, z = (T.setVm s.vm).setFrames (.invoking m args :: below) := ⟨_, rfl⟩
  rw [← hA'] at Y
  have hvm : s'.vm = s.vm := by rw [hA']; rfl
  have hhp : s'.heap = T.heap := by rw [hA']; rfl
  have hW0 : s.WarmedH s'.vm := by rw [hvm]; exact State.WarmedH.refl s
  have hat' : ∀ w ∈ vx_atS own ic cls names, w.before args s' = true := fun w hw => vx_ot_at hW0 hvm.symm (hgood w (List.mem_cons_of_mem _ (List.mem_cons_of_mem _ hw))) (hat w hw)
  have hk' : (Cond.classLink own ik cls).before args s' = true := vx_ot_at hW0 hvm.symm (hgood _ List.mem_cons_self) hk
  have hini' : (Cond.initialized cls).before args s' = true := vx_ot_at hW0 hvm.symm (hgood _ (List.mem_cons_of_mem _ List.mem_cons_self)) hini
  have hU' : vx_Zq Bundle.tN "UNASSIGNED_STACK" Bundle.steD A s' s'.heap := by rw [hhp]; exact vx_Zq.moved hW0.alike (hU.kept hS.2.1)
  have hN' : vx_Zq Bundle.tN "SUPPRESSED_SENTINEL" Bundle.listD A s' s'.heap := by rw [hhp]; exact vx_Zq.moved hW0.alike (hN.kept hS.2.1)
  have h : ∀ w ∈ Bundle.ownAtoms own ic cls names, w.before args s' = true := vx_own hat' (vx_isRefq hU'.1) (vx_isRefq hN'.1) hU'.2.word hN'.2.word
  have hown' : s'.vm.findClass own = some m.cls := by rw [hvm]; exact hown
  have hins : (Cond.instantiable cls 6).before args s' = true := h _ (by simp [Bundle.ownAtoms])
  obtain ⟨vm₁, cX, kX, hfX, hkX, -, -, X₁, st1⟩ := Y.newCold hexec (own := own) (C := cls) (index := ik) (n := 6) hown' hk' hins hini'
    (g := F0 m pc ls rest) rfl (by rw [hb]; exact d0) (Nat.le_refl _) (Nat.le_refl _)
  generalize hT1 : (T.setVm vm₁).pushCell { cls := cX, slots := kX.instanceTypes.map defaultValue, vm := .none } = T1 at X₁ st1
  have hcat : (Value.ref T.heap.size).category = 1 := rfl
  have hcellA : T1.heap[T.heap.size]? = some (freshCell cX kX) := by rw [← hT1]; exact State.heap_pushCell_size _ _
  have d3' : decode c.code (pc + 3) = .ok (.dup, 1) := by rw [hb]; exact d3
  have d4' : decode c.code (pc + 4) = .ok (.ldc is, 2) := by rw [hb]; exact d4
  have hstr' : vk_R own is text sa s' := vk_R.warm hW0 hstr
  obtain ⟨V, ce, L, Z, hL, hlt, hcl9, hvm9, st⟩ := vx_ctorMadeS X₁ hexec htr (own := own) (cls := cls) (names := names) (ic := ic) hown' hcls hnames h (fun x hx => nomatch hx) hfX hkX hcellA (by rw [hhp]; exact Nat.le_refl _) (msg := .ref sa) rfl
    (g := { method := m, pc := pc + 6, locals := ls, stack := .ref sa :: .ref T.heap.size :: .ref T.heap.size :: rest, locked := none }) rfl hsize (rest := rest) rfl
    (by rw [hb]; exact d6) hRframes (by simp only [List.map_cons, List.sum_cons, hcat]; omega)
  have Z0 := Stand.forget (locs := []) Z (fun y hy => by rw [hL y hy, hhp]; exact Nat.le_refl _)
  obtain ⟨f1, f2⟩ := vx_frame Z0.same
  rw [hhp] at f1 f2
  have hcid : ce.cls = D.1 ci := by
    rw [hcl9]
    have h1 := (hK.1 ci _ hc).2.1
    rw [hvm] at hfX
    exact Option.some.inj (hfX.symm.trans h1)
  have hh : (V.setCell T.heap.size ce).heap[T.heap.size]? = some ce := heapAt_setCell_self (s := V) ce hlt
  subst hA'
  have X5 := vx_back9 X Y Z0
  have X6 : Stand p l e R s m args below meth c (V.setCell T.heap.size ce) locs (cells + 1) (slots + 6) := { X5 with same := X5.same.mono (by omega) (by omega) }
  have hk9 : ∀ (k : Nat) (x : Nat × va_E), ws[k]? = some x → (V.setCell T.heap.size ce).heap[x.1]? = T.heap[x.1]? := fun k x hx => f2 x.1 ((hP k x hx).lt) (fun z hz => nomatch hz)
  obtain ⟨t, a1, b1⟩ := kk T.heap.size (V.setCell T.heap.size ce).heap ((hP.kept hk9).app (fun k x hx => by
      have hz : k < 1 := (List.getElem?_eq_some_iff.mp hx).1
      rw [show k = 0 by omega] at hx
      cases hx
      exact ⟨_, hc, ce, hh, hcid, hvm9, fun k hk => absurd hk (Nat.not_lt_zero k)⟩)) (hD.push hP rfl (hA _ hS.1)) ⟨Nat.le_trans hS.1 f1, fun q h1 h2 => (f2 q (Nat.lt_of_lt_of_le h1 hS.1) (fun z hz => nomatch hz)).trans (hS.2.1 q h1 h2), hS.2.2⟩ _ rfl X6
  refine ⟨t, st1 _ ?_, b1⟩
  show Steps p.tables e below (T1.setTop { method := m, pc := pc + 3, locals := ls, stack := .ref T.heap.size :: rest, locked := none }) _
  jvm_step X₁.here [X₁.here.top, hexec, d3', Value.category]
  exact X₁.ldcString hexec (own := own) (text := text) (index := is) (a := sa) hown' hstr'.1 hstr'.2
    (g := { method := m, pc := pc + 4, locals := ls, stack := .ref T.heap.size :: .ref T.heap.size :: rest, locked := none }) rfl d4' _ (st _ a1)
/-- 'new E()' that isn't thrown at once: the object goes on the stack -/
theorem vx_make0 {cc : ByteArray} {pc : Nat} (hexec : p.tables.exec = Jvm.exec) (hb : c.code = cc) (hl : l.stackTraces = false) {own cls : String} {names : List String} {ik ic ci : Nat} {A : Nat → Prop} {T0 : u_T}
    (hown : s.vm.findClass own = some m.cls) (hcls : Bundle.fit cls = true) (hnames : ∀ n ∈ names, Bundle.fit n = true)
    (hk : (Cond.classLink own ik cls).before args s = true) (hini : (Cond.initialized cls).before args s = true) (hat : ∀ w ∈ vx_at0 own ic cls names, w.before args s = true)
    (hgood : ∀ w ∈ Cond.classLink own ik cls :: Cond.initialized cls :: vx_at0 own ic cls names, vx_ot w = true)
    (hU : vx_Zq Bundle.tN "UNASSIGNED_STACK" Bundle.steD A s s.heap) (hN : vx_Zq Bundle.tN "SUPPRESSED_SENTINEL" Bundle.listD A s s.heap) (hS : va_S A s.heap H locs) (hsize : ls.size = c.maxLocals)
    (d0 : decode cc pc = .ok (.new ik, 3)) (d3 : decode cc (pc + 3) = .ok (.dup, 1)) (d4 : decode cc (pc + 4) = .ok (.invokespecial ic, 3))
    (hK : va_K D cl tys s) (hP : va_P D cl ws H) (hD : va_D A ws) (hA : ∀ q, s.heap.size ≤ q → A q) (hc : cl[ci]? = some (cls, T0, 0))
    (hRframes : names.length + 3 < R.frames) (hRlocals : (rest.map fun v => v.category).sum + (13 * (names.length + 1) + 42) ≤ R.locals) (hRcells : cells + 1 ≤ R.cells) (hRslots : slots + 6 ≤ R.slots)
    (kk : ∀ (q : Nat) (H1 : Heap), va_P D cl (ws ++ [(q, .inr (ci, []))]) H1 → va_D A (ws ++ [(q, .inr (ci, []))]) → va_S A s.heap H1 locs → W p l e R s m args below meth c H1 locs (cells + 1) (slots + 6) Q (F0 m (pc + 7) ls (.ref q :: rest))) :
    W p l e R s m args below meth c H locs cells slots Q (F0 m pc ls rest) := by
  intro T hT X
  subst hT
  have htr : e.platform.stackTraces = false := (show e.platform.stackTraces = l.stackTraces by rw [X.admits.platform]).trans hl
  have Y := vx_rebase X (R' := { frames := R.frames, locals := R.locals, cells := 1, slots := 6 }) (Nat.le_refl _) (Nat.le_refl _) hRcells hRslots
  obtain ⟨s', hA'⟩ : ∃ z, z = (T.setVm s.vm).setFrames (.invoking m args :: below) := ⟨_, rfl⟩
  rw [← hA'] at Y
  have hvm : s'.vm = s.vm := by rw [hA']; rfl
  have hhp : s'.heap = T.heap := by rw [hA']; rfl
  have hW0 : s.WarmedH s'.vm := by rw [hvm]; exact State.WarmedH.refl s
  have hat' : ∀ w ∈ vx_at0 own ic cls names, w.before args s' = true := fun w hw => vx_ot_at hW0 hvm.symm (hgood w (List.mem_cons_of_mem _ (List.mem_cons_of_mem _ hw))) (hat w hw)
  have hk' : (Cond.classLink own ik cls).before args s' = true := vx_ot_at hW0 hvm.symm (hgood _ List.mem_cons_self) hk
  have hini' : (Cond.initialized cls).before args s' = true := vx_ot_at hW0 hvm.symm (hgood _ (List.mem_cons_of_mem _ List.mem_cons_self)) hini
  have hU' : vx_Zq Bundle.tN "UNASSIGNED_STACK" Bundle.steD A s' s'.heap := by rw [hhp]; exact vx_Zq.moved hW0.alike (hU.kept hS.2.1)
  have hN' : vx_Zq Bundle.tN "SUPPRESSED_SENTINEL" Bundle.listD A s' s'.heap := by rw [hhp]; exact vx_Zq.moved hW0.alike (hN.kept hS.2.1)
  have h : ∀ w ∈ Bundle.ownAtoms0 own ic cls names, w.before args s' = true := vx_own hat' (vx_isRefq hU'.1) (vx_isRefq hN'.1) hU'.2.word hN'.2.word
  have hown' : s'.vm.findClass own = some m.cls := by rw [hvm]; exact hown
  have hins : (Cond.instantiable cls 6).before args s' = true := h _ (by simp [Bundle.ownAtoms0])
  obtain ⟨vm₁, cX, kX, hfX, hkX, -, -, X₁, st1⟩ := Y.newCold hexec (own := own) (C := cls) (index := ik) (n := 6) hown' hk' hins hini'
    (g := F0 m pc ls rest) rfl (by rw [hb]; exact d0) (Nat.le_refl _) (Nat.le_refl _)
  generalize hT1 : (T.setVm vm₁).pushCell { cls := cX, slots := kX.instanceTypes.map defaultValue, vm := .none } = T1 at X₁ st1
  have hcat : (Value.ref T.heap.size).category = 1 := rfl
  have hcellA : T1.heap[T.heap.size]? = some (freshCell cX kX) := by rw [← hT1]; exact State.heap_pushCell_size _ _
  have d3' : decode c.code (pc + 3) = .ok (.dup, 1) := by rw [hb]; exact d3
  obtain ⟨V, ce, L, Z, hL, hlt, hcl9, hvm9, st⟩ := vx_ctorMade0 X₁ hexec htr (own := own) (cls := cls) (names := names) (ic := ic) hown' hcls hnames h (fun x hx => nomatch hx) hfX hkX hcellA (by rw [hhp]; exact Nat.le_refl _)
    (g := { method := m, pc := pc + 4, locals := ls, stack := .ref T.heap.size :: .ref T.heap.size :: rest, locked := none }) rfl hsize (rest := rest) rfl
    (by rw [hb]; exact d4) hRframes (by simp only [List.map_cons, List.sum_cons, hcat]; omega)
  have Z0 := Stand.forget (locs := []) Z (fun y hy => by rw [hL y hy, hhp]; exact Nat.le_refl _)
  obtain ⟨f1, f2⟩ := vx_frame Z0.same
  rw [hhp] at f1 f2
  have hcid : ce.cls = D.1 ci := by
    rw [hcl9]
    have h1 := (hK.1 ci _ hc).2.1
    rw [hvm] at hfX
    exact Option.some.inj (hfX.symm.trans h1)
  have hh : (V.setCell T.heap.size ce).heap[T.heap.size]? = some ce := heapAt_setCell_self (s := V) ce hlt
  subst hA'
  have X5 := vx_back9 X Y Z0
  have X6 : Stand p l e R s m args below meth c (V.setCell T.heap.size ce) locs (cells + 1) (slots + 6) := { X5 with same := X5.same.mono (by omega) (by omega) }
  have hk9 : ∀ (k : Nat) (x : Nat × va_E), ws[k]? = some x → (V.setCell T.heap.size ce).heap[x.1]? = T.heap[x.1]? := fun k x hx => f2 x.1 ((hP k x hx).lt) (fun z hz => nomatch hz)
  obtain ⟨t, a1, b1⟩ := kk T.heap.size (V.setCell T.heap.size ce).heap ((hP.kept hk9).app (fun k x hx => by
      have hz : k < 1 := (List.getElem?_eq_some_iff.mp hx).1
      rw [show k = 0 by omega] at hx
      cases hx
      exact ⟨_, hc, ce, hh, hcid, hvm9, fun k hk => absurd hk (Nat.not_lt_zero k)⟩)) (hD.push hP rfl (hA _ hS.1)) ⟨Nat.le_trans hS.1 f1, fun q h1 h2 => (f2 q (Nat.lt_of_lt_of_le h1 hS.1) (fun z hz => nomatch hz)).trans (hS.2.1 q h1 h2), hS.2.2⟩ _ rfl X6
  refine ⟨t, st1 _ ?_, b1⟩
  show Steps p.tables e below (T1.setTop { method := m, pc := pc + 3, locals := ls, stack := .ref T.heap.size :: rest, locked := none }) _
  jvm_step X₁.here [X₁.here.top, hexec, d3', Value.category]
  exact st _ a1
/-- 'throw x' of an object that was made before -/
theorem vx_athrow {cc : ByteArray} {pc : Nat} (hexec : p.tables.exec = Jvm.exec) (hb : c.code = cc) {q : Addr} (hdg : decode cc pc = .ok (.athrow, 1)) (k : vx_W p l e R s m args below meth c H locs cells slots Q (F0 m pc ls rest) q) : W p l e R s m args below meth c H locs cells slots Q (F0 m pc ls (.ref q :: rest)) := by
  intro T hT X
  obtain ⟨t, st, hq⟩ := k T hT X
  refine ⟨t, ?_, hq⟩
  have hdg' : decode c.code pc = .ok (.athrow, 1) := by rw [hb]; exact hdg
  jvm_step X.here [X.here.top, hexec, hdg', athrow.wp_sem]
  exact st
end VXK2
/-! ===== END ===== -/
/-! ===== BEGIN a constructor that throws (launches without stack traces) ===== -/
section VXIA
variable {p : Program} {l : Launch} {e : Env} {R : Room} {s : State} {m : MethodId} {args : Array Value} {below : List Frame} {meth : Method} {c : Code} {T : State} {locs : List Loc} {cells slots : Nat}
theorem vx_callI (X : Stand p l e R s m args below meth c T locs cells slots) (hexec : p.tables.exec = Jvm.exec) {own : String} {index : Nat} {y : MethodName} {bytes : ByteArray} {maxL : Nat}
    (hown : s.vm.findClass own = some m.cls) (hy1 : y.name = "<init>") (hlink : (Cond.methodLink own index y).before args s = true) (hinst : (Cond.instanceMethod y).before args s = true)
    (hcode : (Cond.code y bytes maxL none).before args s = true) (hy : y.cls ≠ "java/lang/invoke/MethodHandle" ∧ y.cls ≠ "java/lang/invoke/VarHandle")
    {W9 : Nat} {Pre : Pt → Array Value → Prop} {Post : Pt → Array Value → Option Value → Pt → Prop} {PostX : Pt → Array Value → Addr → Pt → Prop} (hK : vx_Back l R p e below s args y 3 W9 Pre Post PostX)
    {g : JFrame} (hg : g.method = m) (hsize : g.locals.size = c.maxLocals) {a : Addr} {argsL rest : List Value} (hlen : ∀ sig, parseMethodDescriptor y.desc = some sig → argsL.length = sig.parameters.length)
    (hstack : g.stack = argsL.reverse ++ .ref a :: rest) (hW : 2 * g.monitorRoom + (rest.map fun v => v.category).sum ≤ W9) (hdg : decode c.code g.pc = .ok (.invokespecial index, 3))
    (hpre : ∀ vm₁, s.WarmedH vm₁ → Pre ⟨T.setVm vm₁, locs, cells, slots⟩ (Value.ref a :: argsL).toArray) :
    (∃ (v : Option Value) (vm₁ : Vm) (B : Pt), s.WarmedH vm₁ ∧ Stand p l e R s m args below meth c B.U B.locs B.cells B.slots ∧ Post ⟨T.setVm vm₁, locs, cells, slots⟩ (Value.ref a :: argsL).toArray v B ∧
      ∀ target, Steps p.tables e below (B.U.setTop { g with pc := g.pc + 3, stack := v.toList ++ rest }) target → Steps p.tables e below (T.setTop g) target) ∨
    (∃ (q : Addr) (vm₁ : Vm) (B : Pt), s.WarmedH vm₁ ∧ Stand p l e R s m args below meth c B.U B.locs B.cells B.slots ∧ PostX ⟨T.setVm vm₁, locs, cells, slots⟩ (Value.ref a :: argsL).toArray q B ∧
      Steps p.tables e below (T.setTop g) ((B.U.setTop { g with stack := rest }).pushFrame (.throwing q))) := by
  subst hg
  have hpl : e.platform.magicAccessors = ({} : Platform).magicAccessors := by rw [X.admits.platform]
  obtain ⟨mk, methM, cM, kP, vm₁, hnamed, hmethM, hcodeM, -, hlocalsM, -, hkP, -, hW₁, hstep₁⟩ := Steps.initColdArgs (e := e) X.here hexec X.warmed hpl hown hy1 hy hlink hinst hcode (f := g) rfl hlen hstack hdg
  have X₁ := X.noted hW₁
  rcases hK g.method meth c ⟨T.setVm vm₁, locs, cells, slots⟩ { g with stack := rest } (.invokespecial index) mk (Value.ref a :: argsL).toArray X₁ rfl hsize hdg hW (X₁.named hnamed) (hpre vm₁ X₁.warmed) with ⟨v, B, X', hpost, hsteps⟩ | ⟨q, B, X', hpost, hsteps⟩
  · exact Or.inl ⟨v, vm₁, B, X₁.warmed, X', hpost, fun target h => hstep₁ _ fun acts => by rw [doInvoke_state]; exact hsteps.trans h⟩
  · exact Or.inr ⟨q, vm₁, B, X₁.warmed, X', hpost, hstep₁ _ fun acts => by rw [doInvoke_state]; exact hsteps⟩
end VXIA
section VXIB
variable {p : Program} {l : Launch} {e : Env} {R : Room} {s : State} {m : MethodId} {args : Array Value} {below : List Frame} {meth : Method} {c : Code} {H : Heap} {locs : List Loc} {cells slots : Nat}
variable {y : MethodName} {bytes cc : ByteArray} {maxL nL mc ms n index : Nat} {ret : Option FieldType} {ws : List Cond} {rm : Room} {Pc : Array Value → State → Prop} {Qc : Array Value → State → Outcome → State → Prop} {XC : String → State → State → Prop} {free : Addr → Prop} {Ts : List Cond} {own C : String} {b : Addr} {As rest : List Value} {g : JFrame}
theorem vx_runI (S : CallFix p m c cc nL s args Ts own) (hM : vx_Met l y ws rm Pc Qc XC mc ms free) (cw : CallB R s args own index y bytes maxL none ws rm mc ms n ∧ y.name = "<init>" ∧ (Cond.instanceMethod y).before args s = true) (hp : PreS s H Pc (.ref b :: As))
    (hg : g.method = m) (hn : As.length = n) (hsize : g.locals.size = nL) (hstack : g.stack = As.reverse ++ .ref b :: rest) (hW : 2 * g.monitorRoom + (rest.map fun v => v.category).sum ≤ 8) (hdg : decode cc g.pc = .ok (.invokespecial index, 3)) (hf : cells + mc ≤ R.cells ∧ slots + ms ≤ R.slots) :
    vx_Run p l e R s m args below meth c H locs cells slots mc ms g rest (Qc (Value.ref b :: As).toArray) XC free := by
  have hK : vx_Back l R p e below s args y 3 8 (PreOf R mc ms Pc) (PostOf Qc mc ms free) (vx_Post XC mc ms free) := vx_callBack cw.1 hM hp.1
  obtain ⟨⟨-, -, -, -, -, -, hcode, -, hy, hlen, hl⟩, hy1, hin⟩ := cw
  obtain ⟨hx, hb, hml, ho, -⟩ := S
  have hPc := hp.2
  intro T hT X
  rcases vx_callI X hx (bytes := bytes) (maxL := maxL) ho hy1 hl hin hcode hy hK hg (hsize.trans hml.symm) (a := b) (argsL := As) (rest := rest) (fun sig h => hn.trans (hlen sig h)) hstack hW (by rw [hb]; exact hdg)
    (fun vm₁ hW₁ => ⟨hf.1, hf.2, hPc (T.setVm vm₁) hT hW₁⟩) with ⟨v, vm₁, ⟨U', l2, c2, s2⟩, hW₁, X', ⟨g', mk, t, L, e1, e2, hq, h1, hL, h2, h3⟩, st⟩ | ⟨q, vm₁, ⟨U', l2, c2, s2⟩, hW₁, X', ⟨g', mk, t, L, E, ce, e1, e2, hq, hce, hcv, hcl, h1, hL, h2, h3⟩, st⟩
  · dsimp only [Pt.U, Pt.locs, Pt.cells, Pt.slots] at X' e1 e2 h1 h2 h3 st
    subst h1; subst h2; subst h3
    exact Or.inl ⟨v, (T.setVm vm₁).calling g' mk (Value.ref b :: As).toArray, t, U', L, hT, X', hL, e1, e2, hq, st⟩
  · dsimp only [Pt.U, Pt.locs, Pt.cells, Pt.slots] at X' e1 e2 h1 h2 h3 st hcl
    subst h1; subst h2; subst h3
    exact Or.inr ⟨q, (T.setVm vm₁).calling g' mk (Value.ref b :: As).toArray, t, U', L, E, ce, hT, X', hL, e1, e2, hq, hce, hcv, vx_cls hW₁ hcl, st⟩
end VXIB
/-! ===== END ===== -/
/-! ===== BEGIN a private constructor of a nest mate that throws ===== -/
section VXIC
variable {p : Program} {l : Launch} {e : Env} {R : Room} {s : State} {m : MethodId} {args : Array Value} {below : List Frame} {meth : Method} {c : Code} {T : State} {locs : List Loc} {cells slots : Nat}
theorem vx_callIN (X : Stand p l e R s m args below meth c T locs cells slots) (hexec : p.tables.exec = Jvm.exec) {own : String} {index : Nat} {host : String} {y : MethodName} {bytes : ByteArray} {maxL : Nat}
    (hown : s.vm.findClass own = some m.cls) (hy1 : y.name = "<init>") (hlink : (Cond.methodLinkNest own index y host).before args s = true) (hinst : (Cond.instanceMethod y).before args s = true)
    (hcode : (Cond.code y bytes maxL none).before args s = true) (hy : y.cls ≠ "java/lang/invoke/MethodHandle" ∧ y.cls ≠ "java/lang/invoke/VarHandle")
    {W9 : Nat} {Pre : Pt → Array Value → Prop} {Post : Pt → Array Value → Option Value → Pt → Prop} {PostX : Pt → Array Value → Addr → Pt → Prop} (hK : vx_Back l R p e below s args y 3 W9 Pre Post PostX)
    {g : JFrame} (hg : g.method = m) (hsize : g.locals.size = c.maxLocals) {a : Addr} {argsL rest : List Value} (hlen : ∀ sig, parseMethodDescriptor y.desc = some sig → argsL.length = sig.parameters.length)
    (hstack : g.stack = argsL.reverse ++ .ref a :: rest) (hW : 2 * g.monitorRoom + (rest.map fun v => v.category).sum ≤ W9) (hdg : decode c.code g.pc = .ok (.invokespecial index, 3))
    (hpre : ∀ vm₁, s.WarmedH vm₁ → Pre ⟨T.setVm vm₁, locs, cells, slots⟩ (Value.ref a :: argsL).toArray) :
    (∃ (v : Option Value) (vm₁ : Vm) (B : Pt), s.WarmedH vm₁ ∧ Stand p l e R s m args below meth c B.U B.locs B.cells B.slots ∧ Post ⟨T.setVm vm₁, locs, cells, slots⟩ (Value.ref a :: argsL).toArray v B ∧
      ∀ target, Steps p.tables e below (B.U.setTop { g with pc := g.pc + 3, stack := v.toList ++ rest }) target → Steps p.tables e below (T.setTop g) target) ∨
    (∃ (q : Addr) (vm₁ : Vm) (B : Pt), s.WarmedH vm₁ ∧ Stand p l e R s m args below meth c B.U B.locs B.cells B.slots ∧ PostX ⟨T.setVm vm₁, locs, cells, slots⟩ (Value.ref a :: argsL).toArray q B ∧
      Steps p.tables e below (T.setTop g) ((B.U.setTop { g with stack := rest }).pushFrame (.throwing q))) := by
  subst hg
  have hpl : e.platform.magicAccessors = ({} : Platform).magicAccessors := by rw [X.admits.platform]
  obtain ⟨mk, methM, cM, kP, vm₁, hnamed, hmethM, hcodeM, -, hlocalsM, -, hkP, -, hW₁, hstep₁⟩ := Steps.initColdArgsNest (e := e) X.here hexec X.warmed hpl hown hy1 hy hlink hinst hcode (f := g) rfl hlen hstack hdg
  have X₁ := X.noted hW₁
  rcases hK g.method meth c ⟨T.setVm vm₁, locs, cells, slots⟩ { g with stack := rest } (.invokespecial index) mk (Value.ref a :: argsL).toArray X₁ rfl hsize hdg hW (X₁.named hnamed) (hpre vm₁ X₁.warmed) with ⟨v, B, X', hpost, hsteps⟩ | ⟨q, B, X', hpost, hsteps⟩
  · exact Or.inl ⟨v, vm₁, B, X₁.warmed, X', hpost, fun target h => hstep₁ _ fun acts => by rw [doInvoke_state]; exact hsteps.trans h⟩
  · exact Or.inr ⟨q, vm₁, B, X₁.warmed, X', hpost, hstep₁ _ fun acts => by rw [doInvoke_state]; exact hsteps⟩
end VXIC
section VXID
variable {p : Program} {l : Launch} {e : Env} {R : Room} {s : State} {m : MethodId} {args : Array Value} {below : List Frame} {meth : Method} {c : Code} {H : Heap} {locs : List Loc} {cells slots : Nat}
theorem vx_runIN {y : MethodName} {bytes cc : ByteArray} {maxL nL mc ms n index : Nat} {ws : List Cond} {rm : Room} {Pc : Array Value → State → Prop} {Qc : Array Value → State → Outcome → State → Prop} {XC : String → State → State → Prop} {free : Addr → Prop} {Ts : List Cond} {own host : String} {b : Addr} {As rest : List Value} {g : JFrame}
    (S : CallFix p m c cc nL s args Ts own) (hM : vx_Met l y ws rm Pc Qc XC mc ms free) (cw : va_CN R s args own index y host bytes maxL none ws rm mc ms n ∧ y.name = "<init>" ∧ (Cond.instanceMethod y).before args s = true) (hp : PreS s H Pc (.ref b :: As))
    (hg : g.method = m) (hn : As.length = n) (hsize : g.locals.size = nL) (hstack : g.stack = As.reverse ++ .ref b :: rest) (hW : 2 * g.monitorRoom + (rest.map fun v => v.category).sum ≤ 8) (hdg : decode cc g.pc = .ok (.invokespecial index, 3)) (hf : cells + mc ≤ R.cells ∧ slots + ms ≤ R.slots) :
    vx_Run p l e R s m args below meth c H locs cells slots mc ms g rest (Qc (Value.ref b :: As).toArray) XC free := by
  obtain ⟨⟨⟨hrc, hrs, hfr, hlo, hws, hcw⟩, hcode, hini, hy, hlen, hl⟩, hx1, hx2⟩ := cw
  have hK : vx_Back l R p e below s args y 3 8 (PreOf R mc ms Pc) (PostOf Qc mc ms free) (vx_Post XC mc ms free) := vx_back (bytes := bytes) (maxL := maxL) (ret := none) hM hp.1 hrc hrs hfr hlo hws hcw (fun a' U hW => word_at hW (Or.inl (by first | rfl | simp [Cond.onTables, Cond.keeps, Cond.steady])) hini)
  obtain ⟨hx, hb, hml, ho, -⟩ := S
  have hPc := hp.2
  intro T hT X
  rcases vx_callIN X hx (bytes := bytes) (maxL := maxL) ho hx1 hl hx2 hcode hy hK hg (hsize.trans hml.symm) (a := b) (argsL := As) (rest := rest) (fun sig h => hn.trans (hlen sig h)) hstack hW (by rw [hb]; exact hdg)
    (fun vm₁ hW₁ => ⟨hf.1, hf.2, hPc (T.setVm vm₁) hT hW₁⟩) with ⟨v, vm₁, ⟨U', l2, c2, s2⟩, hW₁, X', ⟨g', mk, t, L, e1, e2, hq, h1, hL, h2, h3⟩, st⟩ | ⟨q, vm₁, ⟨U', l2, c2, s2⟩, hW₁, X', ⟨g', mk, t, L, E, ce, e1, e2, hq, hce, hcv, hcl, h1, hL, h2, h3⟩, st⟩
  · dsimp only [Pt.U, Pt.locs, Pt.cells, Pt.slots] at X' e1 e2 h1 h2 h3 st
    subst h1; subst h2; subst h3
    exact Or.inl ⟨v, (T.setVm vm₁).calling g' mk (Value.ref b :: As).toArray, t, U', L, hT, X', hL, e1, e2, hq, st⟩
  · dsimp only [Pt.U, Pt.locs, Pt.cells, Pt.slots] at X' e1 e2 h1 h2 h3 st hcl
    subst h1; subst h2; subst h3
    exact Or.inr ⟨q, (T.setVm vm₁).calling g' mk (Value.ref b :: As).toArray, t, U', L, E, ce, hT, X', hL, e1, e2, hq, hce, hcv, vx_cls hW₁ hcl, st⟩
end VXID
/-! ===== END ===== -/
/-! ===== BEGIN a method of a class above, found by the receiver, that may throw (follows va_callVU, va_runU of this kit) ===== -/
section
variable {p : Program} {l : Launch} {e : Env} {R : Room} {s : State} {m : MethodId} {args : Array Value} {below : List Frame} {meth : Method} {c : Code} {H : Heap} {locs : List Loc} {cells slots : Nat}
theorem vx_callVU {T : State} {locs : List Loc} {cells slots : Nat} (X : Stand p l e R s m args below meth c T locs cells slots) (hexec : p.tables.exec = Jvm.exec) {own C owner : String} {index : Nat} {x y : MethodName} {bytes : ByteArray} {maxL : Nat} {ret : Option FieldType}
    (hown : s.vm.findClass own = some m.cls) (hlink : (Cond.methodLink own index x).before args s = true) (hsame : (Cond.sameMethod x.cls owner x.name x.desc).before args s = true)
    (hd0 : va_Decl s ⟨owner, x.name, x.desc⟩) (howner : owner ≠ "java/lang/invoke/MethodHandle" ∧ owner ≠ "java/lang/invoke/VarHandle")
    (hsel : (Cond.selects C x y).before args s = true) (hinst : (Cond.instanceMethod y).before args s = true) (hcode : (Cond.code y bytes maxL ret).before args s = true)
    {W : Nat} {Pre : Pt → Array Value → Prop} {Post : Pt → Array Value → Option Value → Pt → Prop} {PostX : Pt → Array Value → Addr → Pt → Prop} (hK : vx_Back l R p e below s args y 3 W Pre Post PostX)
    {b : Addr} {cellB : Cell} (hcell : T.heap[b]? = some cellB) (hobj : cellB.vm.isStatics = false) (hcls : s.vm.findClass C = some cellB.cls)
    {g : JFrame} (hg : g.method = m) (hsize : g.locals.size = c.maxLocals) {argsL rest : List Value} (hlen : ∀ sig, parseMethodDescriptor x.desc = some sig → argsL.length = sig.parameters.length)
    (hstack : g.stack = argsL.reverse ++ .ref b :: rest) (hW : 2 * g.monitorRoom + (rest.map fun v => v.category).sum ≤ W) (hdg : decode c.code g.pc = .ok (.invokevirtual index, 3))
    (hpre : ∀ vm₁, s.WarmedH vm₁ → Pre ⟨T.setVm vm₁, locs, cells, slots⟩ (Value.ref b :: argsL).toArray) :
    (∃ (v : Option Value) (vm₁ : Vm) (B : Pt), s.WarmedH vm₁ ∧ Stand p l e R s m args below meth c B.U B.locs B.cells B.slots ∧ Post ⟨T.setVm vm₁, locs, cells, slots⟩ (Value.ref b :: argsL).toArray v B ∧
      ∀ target, Steps p.tables e below (B.U.setTop { g with pc := g.pc + 3, stack := v.toList ++ rest }) target → Steps p.tables e below (T.setTop g) target) ∨
    (∃ (q : Addr) (vm₁ : Vm) (B : Pt), s.WarmedH vm₁ ∧ Stand p l e R s m args below meth c B.U B.locs B.cells B.slots ∧ PostX ⟨T.setVm vm₁, locs, cells, slots⟩ (Value.ref b :: argsL).toArray q B ∧
      Steps p.tables e below (T.setTop g) ((B.U.setTop { g with stack := rest }).pushFrame (.throwing q))) := by
  obtain ⟨r0, r, hn, hrm, hstR, hsigR⟩ := hd0
  obtain ⟨cn, ck, r1, hcn, hck, hni, hf, hn1⟩ := Cond.sameMethod_found hsame
  cases hn.symm.trans hn1
  obtain ⟨mk, methM, hnamed, hmethM, -, habM⟩ := Cond.instanceMethod_spec hinst
  obtain ⟨c2, r2, m2, q1, q2, q3, q4, kP, hkP, hkPi⟩ := Cond.selects_spec hsel
  cases hcls.symm.trans q1
  cases hf.symm.trans q2
  cases hnamed.symm.trans q3
  have hselP : selectMethod e.platform s.vm cellB.cls r0 = .method mk := by rw [Launch.admits_selectMethod X.admits]; exact q4
  obtain ⟨vm₁, X₁, hstep₁⟩ := X.invokevirtualUp hexec hown hlink hsame howner hn hrm hstR (a := b) (cell := cellB) hcell
    (fun z h => by rw [h] at hobj; cases hobj) hselP hmethM habM hkP hkPi (g := g) hg (argsL := argsL) (rest := rest) (hlen _ hsigR) hstack hdg
  rcases hK m meth c ⟨T.setVm vm₁, locs, cells, slots⟩ { g with stack := rest } (.invokevirtual index) mk (Value.ref b :: argsL).toArray X₁ hg hsize hdg hW (X₁.named hnamed) (hpre vm₁ X₁.warmed) with ⟨v, B, X', hpost, hsteps⟩ | ⟨q, B, X', hpost, hsteps⟩
  · exact Or.inl ⟨v, vm₁, B, X₁.warmed, X', hpost, fun target h => hstep₁ _ fun acts => by rw [doInvoke_state]; exact hsteps.trans h⟩
  · exact Or.inr ⟨q, vm₁, B, X₁.warmed, X', hpost, hstep₁ _ fun acts => by rw [doInvoke_state]; exact hsteps⟩
theorem vx_runU {x y : MethodName} {bytes cc : ByteArray} {maxL nL mc ms n index : Nat} {ret : Option FieldType} {ws : List Cond} {rm : Room} {Pc : Array Value → State → Prop} {Qc : Array Value → State → Outcome → State → Prop} {XC : String → State → State → Prop} {free : Addr → Prop} {Ts : List Cond} {own C owner : String} {b : Addr} {As rest : List Value} {g : JFrame}
    (S : CallFix p m c cc nL s args Ts own) (hM : vx_Met l y ws rm Pc Qc XC mc ms free) (cw : va_CU R s args own C owner index x y bytes maxL ret ws rm mc ms n) (hp : PreV s H C b Pc As)
    (hg : g.method = m) (hn : As.length = n) (hsize : g.locals.size = nL) (hstack : g.stack = As.reverse ++ .ref b :: rest) (hW : 2 * g.monitorRoom + (rest.map fun v => v.category).sum ≤ 8) (hdg : decode cc g.pc = .ok (.invokevirtual index, 3)) (hf : cells + mc ≤ R.cells ∧ slots + ms ≤ R.slots) :
    vx_Run p l e R s m args below meth c H locs cells slots mc ms g rest (Qc (Value.ref b :: As).toArray) XC free := by
  obtain ⟨hrc, hrs, hfr, hlo, hws, hcw⟩ := cw.back
  have hini := cw.init
  have hK : vx_Back l R p e below s args y 3 8 (PreOf R mc ms Pc) (PostOf Qc mc ms free) (vx_Post XC mc ms free) := vx_back (bytes := bytes) (maxL := maxL) (ret := ret) hM hp.1 hrc hrs hfr hlo hws hcw (fun a' U hW => word_at hW (Or.inl (by first | rfl | simp [Cond.onTables, Cond.keeps, Cond.steady])) hini)
  obtain ⟨hx, hb, hml, ho, -⟩ := S
  obtain ⟨-, ⟨cellB, hcB, hoB, hclB⟩, hPc⟩ := hp
  intro T hT X
  rcases vx_callVU X hx (C := C) (owner := owner) (bytes := bytes) (maxL := maxL) (ret := ret) ho cw.link cw.same cw.decl cw.notMH cw.sel cw.inst cw.code hK (by rw [hT]; exact hcB) hoB hclB hg (hsize.trans hml.symm) (argsL := As) (rest := rest) (fun sig h => hn.trans (cw.len sig h)) hstack hW (by rw [hb]; exact hdg)
    (fun vm₁ hW₁ => ⟨hf.1, hf.2, hPc (T.setVm vm₁) hT hW₁⟩) with ⟨v, vm₁, ⟨U', l2, c2, s2⟩, hW₁, X', ⟨g', mk, t, L, e1, e2, hq, h1, hL, h2, h3⟩, st⟩ | ⟨q, vm₁, ⟨U', l2, c2, s2⟩, hW₁, X', ⟨g', mk, t, L, E, ce, e1, e2, hq, hce, hcv, hcl, h1, hL, h2, h3⟩, st⟩
  · dsimp only [Pt.U, Pt.locs, Pt.cells, Pt.slots] at X' e1 e2 h1 h2 h3 st
    subst h1; subst h2; subst h3
    exact Or.inl ⟨v, (T.setVm vm₁).calling g' mk (Value.ref b :: As).toArray, t, U', L, hT, X', hL, e1, e2, hq, st⟩
  · dsimp only [Pt.U, Pt.locs, Pt.cells, Pt.slots] at X' e1 e2 h1 h2 h3 st hcl
    subst h1; subst h2; subst h3
    exact Or.inr ⟨q, (T.setVm vm₁).calling g' mk (Value.ref b :: As).toArray, t, U', L, E, ce, hT, X', hL, e1, e2, hq, hce, hcv, vx_cls hW₁ hcl, st⟩
end
/-! ===== END ===== -/
/-! ===== BEGIN super.m(..) that may throw (follows va_callSU, va_runSU) ===== -/
section
variable {p : Program} {l : Launch} {e : Env} {R : Room} {s : State} {m : MethodId} {args : Array Value} {below : List Frame} {meth : Method} {c : Code} {H : Heap} {locs : List Loc} {cells slots : Nat}
theorem vx_callSU {T : State} {locs : List Loc} {cells slots : Nat} (X : Stand p l e R s m args below meth c T locs cells slots) (hexec : p.tables.exec = Jvm.exec) {own : String} {index : Nat} {y : MethodName} {bytes : ByteArray} {maxL : Nat} {ret : Option FieldType}
    (hown : s.vm.findClass own = some m.cls) (hlink : (Cond.methodLink own index y).before args s = true) (hsame : (Cond.sameMethod y.cls y.cls y.name y.desc).before args s = true) (hsup : (Cond.superclass own y.cls).before args s = true)
    (hinst : (Cond.instanceMethod y).before args s = true) (hcode : (Cond.code y bytes maxL ret).before args s = true) (hno : y.name ≠ "<init>")
    {W : Nat} {Pre : Pt → Array Value → Prop} {Post : Pt → Array Value → Option Value → Pt → Prop} {PostX : Pt → Array Value → Addr → Pt → Prop} (hK : vx_Back l R p e below s args y 3 W Pre Post PostX)
    {b : Addr} {cellB : Cell} {kB : Class} (hcell : T.heap[b]? = some cellB) (hobj : cellB.vm.isStatics = false) (hkB : s.vm.classes[cellB.cls]? = some kB)
    {g : JFrame} (hg : g.method = m) (hsize : g.locals.size = c.maxLocals) {argsL rest : List Value} (hlen : ∀ sig, parseMethodDescriptor y.desc = some sig → argsL.length = sig.parameters.length)
    (hstack : g.stack = argsL.reverse ++ .ref b :: rest) (hW : 2 * g.monitorRoom + (rest.map fun v => v.category).sum ≤ W) (hdg : decode c.code g.pc = .ok (.invokespecial index, 3))
    (hpre : ∀ vm₁, s.WarmedH vm₁ → Pre ⟨T.setVm vm₁, locs, cells, slots⟩ (Value.ref b :: argsL).toArray) :
    (∃ (v : Option Value) (vm₁ : Vm) (B : Pt), s.WarmedH vm₁ ∧ Stand p l e R s m args below meth c B.U B.locs B.cells B.slots ∧ Post ⟨T.setVm vm₁, locs, cells, slots⟩ (Value.ref b :: argsL).toArray v B ∧
      ∀ target, Steps p.tables e below (B.U.setTop { g with pc := g.pc + 3, stack := v.toList ++ rest }) target → Steps p.tables e below (T.setTop g) target) ∨
    (∃ (q : Addr) (vm₁ : Vm) (B : Pt), s.WarmedH vm₁ ∧ Stand p l e R s m args below meth c B.U B.locs B.cells B.slots ∧ PostX ⟨T.setVm vm₁, locs, cells, slots⟩ (Value.ref b :: argsL).toArray q B ∧
      Steps p.tables e below (T.setTop g) ((B.U.setTop { g with stack := rest }).pushFrame (.throwing q))) := by
  obtain ⟨mk, methM, hnamed, hmethM, hstM, habM⟩ := Cond.instanceMethod_spec hinst
  obtain ⟨methM', cM, hmethM', -, -, -, -, -, -, hsigM⟩ := Cond.code_spec hnamed hcode
  cases hmethM.symm.trans hmethM'
  obtain ⟨ps, dk, kp, hps, hdk, hkp, hsuper, -, -, hnid⟩ := Cond.superclass_spec hown hsup
  have hn : s.methodNamed? ⟨y.cls, y.name, y.desc⟩ = some mk := hnamed
  have hpm : ps = mk.cls := Option.some.inj (hps.symm.trans (findClass_of_methodNamed hnamed))
  have hsub : s.vm.isSubclass ps mk.cls = true := by rw [hpm]; simp [Vm.isSubclass, Vm.isSubclassAux]
  obtain ⟨vm₁, X₁, hstep₁⟩ := X.invokespecialUp hexec hown hlink hsame hn hmethM hstM habM hno hdk hnid hps hsuper hsub (a := b) (cell := cellB) hcell
    (fun z h => by rw [h] at hobj; cases hobj) hkB (g := g) hg (argsL := argsL) (rest := rest) (hlen _ hsigM) hstack hdg
  rcases hK m meth c ⟨T.setVm vm₁, locs, cells, slots⟩ { g with stack := rest } (.invokespecial index) mk (Value.ref b :: argsL).toArray X₁ hg hsize hdg hW (X₁.named hnamed) (hpre vm₁ X₁.warmed) with ⟨v, B, X', hpost, hsteps⟩ | ⟨q, B, X', hpost, hsteps⟩
  · exact Or.inl ⟨v, vm₁, B, X₁.warmed, X', hpost, fun target h => hstep₁ _ (by rw [doInvoke_state]; exact hsteps.trans h)⟩
  · exact Or.inr ⟨q, vm₁, B, X₁.warmed, X', hpost, hstep₁ _ (by rw [doInvoke_state]; exact hsteps)⟩
theorem vx_runSU {y : MethodName} {bytes cc : ByteArray} {maxL nL mc ms n index : Nat} {ret : Option FieldType} {ws : List Cond} {rm : Room} {Pc : Array Value → State → Prop} {Qc : Array Value → State → Outcome → State → Prop} {XC : String → State → State → Prop} {free : Addr → Prop} {Ts : List Cond} {own C : String} {cC : ClassId} {b : Addr} {As rest : List Value} {g : JFrame}
    (hat : ClassAt s C cC) (S : CallFix p m c cc nL s args Ts own) (hM : vx_Met l y ws rm Pc Qc XC mc ms free) (cw : va_CS R s args own index y bytes maxL ret ws rm mc ms n) (hp : PreV s H C b Pc As)
    (hg : g.method = m) (hn : As.length = n) (hsize : g.locals.size = nL) (hstack : g.stack = As.reverse ++ .ref b :: rest) (hW : 2 * g.monitorRoom + (rest.map fun v => v.category).sum ≤ 8) (hdg : decode cc g.pc = .ok (.invokespecial index, 3)) (hf : cells + mc ≤ R.cells ∧ slots + ms ≤ R.slots) :
    vx_Run p l e R s m args below meth c H locs cells slots mc ms g rest (Qc (Value.ref b :: As).toArray) XC free := by
  obtain ⟨⟨hrc, hrs, hfr, hlo, hws, hcw⟩, hl1, hl2, hl3, hl4, hini, hcode, hno, hlen⟩ := cw
  have hK : vx_Back l R p e below s args y 3 8 (PreOf R mc ms Pc) (PostOf Qc mc ms free) (vx_Post XC mc ms free) := vx_back (bytes := bytes) (maxL := maxL) (ret := ret) hM hp.1 hrc hrs hfr hlo hws hcw (fun a' U hW => word_at hW (Or.inl (by first | rfl | simp [Cond.onTables, Cond.keeps, Cond.steady])) hini)
  obtain ⟨hx, hb, hml, ho, -⟩ := S
  obtain ⟨-, ⟨cellB, hcB, hoB, hclB⟩, hPc⟩ := hp
  obtain ⟨hfc, kB, hkB, -⟩ := hat
  cases hfc.symm.trans hclB
  intro T hT X
  rcases vx_callSU X hx (bytes := bytes) (maxL := maxL) (ret := ret) ho hl1 hl2 hl3 hl4 hcode hno hK (by rw [hT]; exact hcB) hoB hkB hg (hsize.trans hml.symm) (argsL := As) (rest := rest) (fun sig h => hn.trans (hlen sig h)) hstack hW (by rw [hb]; exact hdg)
    (fun vm₁ hW₁ => ⟨hf.1, hf.2, hPc (T.setVm vm₁) hT hW₁⟩) with ⟨v, vm₁, ⟨U', l2, c2, s2⟩, hW₁, X', ⟨g', mk, t, L, e1, e2, hq, h1, hL, h2, h3⟩, st⟩ | ⟨q, vm₁, ⟨U', l2, c2, s2⟩, hW₁, X', ⟨g', mk, t, L, E, ce, e1, e2, hq, hce, hcv, hcl, h1, hL, h2, h3⟩, st⟩
  · dsimp only [Pt.U, Pt.locs, Pt.cells, Pt.slots] at X' e1 e2 h1 h2 h3 st
    subst h1; subst h2; subst h3
    exact Or.inl ⟨v, (T.setVm vm₁).calling g' mk (Value.ref b :: As).toArray, t, U', L, hT, X', hL, e1, e2, hq, st⟩
  · dsimp only [Pt.U, Pt.locs, Pt.cells, Pt.slots] at X' e1 e2 h1 h2 h3 st hcl
    subst h1; subst h2; subst h3
    exact Or.inr ⟨q, (T.setVm vm₁).calling g' mk (Value.ref b :: As).toArray, t, U', L, E, ce, hT, X', hL, e1, e2, hq, hce, hcv, vx_cls hW₁ hcl, st⟩
end
/-! ===== END ===== -/
/-! ===== BEGIN a private method of a nest mate that may throw (follows va_callVN, va_callSN, va_runVN, va_runSN) ===== -/
section
variable {p : Program} {l : Launch} {e : Env} {R : Room} {s : State} {m : MethodId} {args : Array Value} {below : List Frame} {meth : Method} {c : Code} {H : Heap} {locs : List Loc} {cells slots : Nat}
variable {T : State}
theorem vx_callVN (X : Stand p l e R s m args below meth c T locs cells slots) (hexec : p.tables.exec = Jvm.exec) {own C : String} {index : Nat} {host : String} {y : MethodName} {bytes : ByteArray} {maxL : Nat} {ret : Option FieldType}
    (hown : s.vm.findClass own = some m.cls) (hlink : (Cond.methodLinkNest own index y host).before args s = true) (hinst : (Cond.instanceMethod y).before args s = true) (hsel : (Cond.selects C y y).before args s = true)
    (hcode : (Cond.code y bytes maxL ret).before args s = true) (hy : y.cls ≠ "java/lang/invoke/MethodHandle" ∧ y.cls ≠ "java/lang/invoke/VarHandle")
    {W : Nat} {Pre : Pt → Array Value → Prop} {Post : Pt → Array Value → Option Value → Pt → Prop} {PostX : Pt → Array Value → Addr → Pt → Prop} (hK : vx_Back l R p e below s args y 3 W Pre Post PostX)
    {b : Addr} {cellB : Cell} (hcell : T.heap[b]? = some cellB) (hobj : cellB.vm.isStatics = false) (hcls : s.vm.findClass C = some cellB.cls)
    {g : JFrame} (hg : g.method = m) (hsize : g.locals.size = c.maxLocals) {argsL rest : List Value} (hlen : ∀ sig, parseMethodDescriptor y.desc = some sig → argsL.length = sig.parameters.length)
    (hstack : g.stack = argsL.reverse ++ .ref b :: rest) (hW : 2 * g.monitorRoom + (rest.map fun v => v.category).sum ≤ W) (hdg : decode c.code g.pc = .ok (.invokevirtual index, 3))
    (hpre : ∀ vm₁, s.WarmedH vm₁ → Pre ⟨T.setVm vm₁, locs, cells, slots⟩ (Value.ref b :: argsL).toArray) :
    (∃ (v : Option Value) (vm₁ : Vm) (B : Pt), s.WarmedH vm₁ ∧ Stand p l e R s m args below meth c B.U B.locs B.cells B.slots ∧ Post ⟨T.setVm vm₁, locs, cells, slots⟩ (Value.ref b :: argsL).toArray v B ∧
      ∀ target, Steps p.tables e below (B.U.setTop { g with pc := g.pc + 3, stack := v.toList ++ rest }) target → Steps p.tables e below (T.setTop g) target) ∨
    (∃ (q : Addr) (vm₁ : Vm) (B : Pt), s.WarmedH vm₁ ∧ Stand p l e R s m args below meth c B.U B.locs B.cells B.slots ∧ PostX ⟨T.setVm vm₁, locs, cells, slots⟩ (Value.ref b :: argsL).toArray q B ∧
      Steps p.tables e below (T.setTop g) ((B.U.setTop { g with stack := rest }).pushFrame (.throwing q))) := by
  obtain ⟨mk, methM, hnamed, hmethM, hstM, habM⟩ := Cond.instanceMethod_spec hinst
  obtain ⟨methM', cM, hmethM', -, -, -, -, -, -, hsigM⟩ := Cond.code_spec hnamed hcode
  cases hmethM.symm.trans hmethM'
  obtain ⟨c2, r2, m2, q1, q2, q3, q4, kP, hkP, hkPi⟩ := Cond.selects_spec hsel
  cases hcls.symm.trans q1
  cases (State.methodFound?_of_named hnamed hy).symm.trans q2
  cases hnamed.symm.trans q3
  have hselP : selectMethod e.platform s.vm cellB.cls mk = .method mk := by rw [Launch.admits_selectMethod X.admits]; exact q4
  obtain ⟨vm₁, X₁, hstep₁⟩ := X.invokevirtualNest hexec hown hlink hnamed hmethM hstM hkP hkPi hy (a := b) (cell := cellB) hcell
    (fun z h => by rw [h] at hobj; cases hobj) hselP hmethM habM hkP hkPi (g := g) hg (argsL := argsL) (rest := rest) (hlen _ hsigM) hstack hdg
  rcases hK m meth c ⟨T.setVm vm₁, locs, cells, slots⟩ { g with stack := rest } (.invokevirtual index) mk (Value.ref b :: argsL).toArray X₁ hg hsize hdg hW (X₁.named hnamed) (hpre vm₁ X₁.warmed) with ⟨v, B, X', hpost, hsteps⟩ | ⟨q, B, X', hpost, hsteps⟩
  · exact Or.inl ⟨v, vm₁, B, X₁.warmed, X', hpost, fun target h => hstep₁ _ fun acts => by rw [doInvoke_state]; exact hsteps.trans h⟩
  · exact Or.inr ⟨q, vm₁, B, X₁.warmed, X', hpost, hstep₁ _ fun acts => by rw [doInvoke_state]; exact hsteps⟩
theorem vx_callSN (X : Stand p l e R s m args below meth c T locs cells slots) (hexec : p.tables.exec = Jvm.exec) {own : String} {index : Nat} {host : String} {y : MethodName} {bytes : ByteArray} {maxL : Nat} {ret : Option FieldType}
    (hown : s.vm.findClass own = some m.cls) (hlink : (Cond.methodLinkNest own index y host).before args s = true) (hstat : (Cond.static y).before args s = true) (hinit : (Cond.initialized y.cls).before args s = true)
    (hcode : (Cond.code y bytes maxL ret).before args s = true) (hy : y.cls ≠ "java/lang/invoke/MethodHandle" ∧ y.cls ≠ "java/lang/invoke/VarHandle")
    {W : Nat} {Pre : Pt → Array Value → Prop} {Post : Pt → Array Value → Option Value → Pt → Prop} {PostX : Pt → Array Value → Addr → Pt → Prop} (hK : vx_Back l R p e below s args y 3 W Pre Post PostX)
    {g : JFrame} (hg : g.method = m) (hsize : g.locals.size = c.maxLocals) {argsL rest : List Value} (hlen : ∀ sig, parseMethodDescriptor y.desc = some sig → argsL.length = sig.parameters.length)
    (hstack : g.stack = argsL.reverse ++ rest) (hW : 2 * g.monitorRoom + (rest.map fun v => v.category).sum ≤ W) (hdg : decode c.code g.pc = .ok (.invokestatic index, 3))
    (hpre : ∀ vm₁, s.WarmedH vm₁ → Pre ⟨T.setVm vm₁, locs, cells, slots⟩ argsL.toArray) :
    (∃ (v : Option Value) (vm₁ : Vm) (B : Pt), s.WarmedH vm₁ ∧ Stand p l e R s m args below meth c B.U B.locs B.cells B.slots ∧ Post ⟨T.setVm vm₁, locs, cells, slots⟩ argsL.toArray v B ∧
      ∀ target, Steps p.tables e below (B.U.setTop { g with pc := g.pc + 3, stack := v.toList ++ rest }) target → Steps p.tables e below (T.setTop g) target) ∨
    (∃ (q : Addr) (vm₁ : Vm) (B : Pt), s.WarmedH vm₁ ∧ Stand p l e R s m args below meth c B.U B.locs B.cells B.slots ∧ PostX ⟨T.setVm vm₁, locs, cells, slots⟩ argsL.toArray q B ∧
      Steps p.tables e below (T.setTop g) ((B.U.setTop { g with stack := rest }).pushFrame (.throwing q))) := by
  obtain ⟨mk, hnamed⟩ := Cond.code_named hcode
  obtain ⟨methM, cM, hmethM, -, -, -, -, -, -, hsigM⟩ := Cond.code_spec hnamed hcode
  have hstatic : methM.isStatic = true := Cond.static_spec hnamed hmethM hstat
  obtain ⟨kP, hkP, -⟩ := className_of_methodNamed hnamed
  have hinitP : kP.init = .initialized := Cond.initialized_spec (findClass_of_methodNamed hnamed) hkP hinit
  obtain ⟨vm₁, X₁, hstep₁⟩ := X.invokestaticNest hexec hown hlink hnamed hmethM hstatic hkP hinitP hy (g := g) hg (argsL := argsL) (rest := rest) (hlen _ hsigM) hstack hdg
  rcases hK m meth c ⟨T.setVm vm₁, locs, cells, slots⟩ { g with stack := rest } (.invokestatic index) mk argsL.toArray X₁ hg hsize hdg hW (X₁.named hnamed) (hpre vm₁ X₁.warmed) with ⟨v, B, X', hpost, hsteps⟩ | ⟨q, B, X', hpost, hsteps⟩
  · exact Or.inl ⟨v, vm₁, B, X₁.warmed, X', hpost, fun target h => hstep₁ _ fun acts => by rw [doInvoke_state]; exact hsteps.trans h⟩
  · exact Or.inr ⟨q, vm₁, B, X₁.warmed, X', hpost, hstep₁ _ fun acts => by rw [doInvoke_state]; exact hsteps⟩
theorem vx_runVN {y : MethodName} {bytes cc : ByteArray} {maxL nL mc ms n index : Nat} {ret : Option FieldType} {ws : List Cond} {rm : Room} {Pc : Array Value → State → Prop} {Qc : Array Value → State → Outcome → State → Prop} {XC : String → State → State → Prop} {free : Addr → Prop} {Ts : List Cond} {own C host : String} {b : Addr} {As rest : List Value} {g : JFrame}
    (S : CallFix p m c cc nL s args Ts own) (hM : vx_Met l y ws rm Pc Qc XC mc ms free) (cw : va_CN R s args own index y host bytes maxL ret ws rm mc ms n ∧ (Cond.instanceMethod y).before args s = true ∧ (Cond.selects C y y).before args s = true) (hp : PreV s H C b Pc As)
    (hg : g.method = m) (hn : As.length = n) (hsize : g.locals.size = nL) (hstack : g.stack = As.reverse ++ .ref b :: rest) (hW : 2 * g.monitorRoom + (rest.map fun v => v.category).sum ≤ 8) (hdg : decode cc g.pc = .ok (.invokevirtual index, 3)) (hf : cells + mc ≤ R.cells ∧ slots + ms ≤ R.slots) :
    vx_Run p l e R s m args below meth c H locs cells slots mc ms g rest (Qc (Value.ref b :: As).toArray) XC free := by
  obtain ⟨⟨⟨hrc, hrs, hfr, hlo, hws, hcw⟩, hcode, hini, hy, hlen, hl⟩, hx1, hx2⟩ := cw
  have hK : vx_Back l R p e below s args y 3 8 (PreOf R mc ms Pc) (PostOf Qc mc ms free) (vx_Post XC mc ms free) := vx_back (bytes := bytes) (maxL := maxL) (ret := ret) hM hp.1 hrc hrs hfr hlo hws hcw (fun a' U hW => word_at hW (Or.inl (by first | rfl | simp [Cond.onTables, Cond.keeps, Cond.steady])) hini)
  obtain ⟨hx, hb, hml, ho, -⟩ := S
  obtain ⟨-, ⟨cellB, hcB, hoB, hclB⟩, hPc⟩ := hp
  intro T hT X
  rcases vx_callVN X hx (C := C) (bytes := bytes) (maxL := maxL) (ret := ret) ho hl hx1 hx2 hcode hy hK (by rw [hT]; exact hcB) hoB hclB hg (hsize.trans hml.symm) (argsL := As) (rest := rest) (fun sig h => hn.trans (hlen sig h)) hstack hW (by rw [hb]; exact hdg)
    (fun vm₁ hW₁ => ⟨hf.1, hf.2, hPc (T.setVm vm₁) hT hW₁⟩) with ⟨v, vm₁, ⟨U', l2, c2, s2⟩, hW₁, X', ⟨g', mk, t, L, e1, e2, hq, h1, hL, h2, h3⟩, st⟩ | ⟨q, vm₁, ⟨U', l2, c2, s2⟩, hW₁, X', ⟨g', mk, t, L, E, ce, e1, e2, hq, hce, hcv, hcl, h1, hL, h2, h3⟩, st⟩
  · dsimp only [Pt.U, Pt.locs, Pt.cells, Pt.slots] at X' e1 e2 h1 h2 h3 st
    subst h1; subst h2; subst h3
    exact Or.inl ⟨v, (T.setVm vm₁).calling g' mk (Value.ref b :: As).toArray, t, U', L, hT, X', hL, e1, e2, hq, st⟩
  · dsimp only [Pt.U, Pt.locs, Pt.cells, Pt.slots] at X' e1 e2 h1 h2 h3 st hcl
    subst h1; subst h2; subst h3
    exact Or.inr ⟨q, (T.setVm vm₁).calling g' mk (Value.ref b :: As).toArray, t, U', L, E, ce, hT, X', hL, e1, e2, hq, hce, hcv, vx_cls hW₁ hcl, st⟩
theorem vx_runSN {y : MethodName} {bytes cc : ByteArray} {maxL nL mc ms n index : Nat} {ret : Option FieldType} {ws : List Cond} {rm : Room} {Pc : Array Value → State → Prop} {Qc : Array Value → State → Outcome → State → Prop} {XC : String → State → State → Prop} {free : Addr → Prop} {Ts : List Cond} {own host : String} {As rest : List Value} {g : JFrame}
    (S : CallFix p m c cc nL s args Ts own) (hM : vx_Met l y ws rm Pc Qc XC mc ms free) (cw : va_CN R s args own index y host bytes maxL ret ws rm mc ms n ∧ (Cond.static y).before args s = true ∧ True) (hp : PreS s H Pc As)
    (hg : g.method = m) (hn : As.length = n) (hsize : g.locals.size = nL) (hstack : g.stack = As.reverse ++ rest) (hW : 2 * g.monitorRoom + (rest.map fun v => v.category).sum ≤ 8) (hdg : decode cc g.pc = .ok (.invokestatic index, 3)) (hf : cells + mc ≤ R.cells ∧ slots + ms ≤ R.slots) :
    vx_Run p l e R s m args below meth c H locs cells slots mc ms g rest (Qc As.toArray) XC free := by
  obtain ⟨⟨⟨hrc, hrs, hfr, hlo, hws, hcw⟩, hcode, hini, hy, hlen, hl⟩, hx1, hx2⟩ := cw
  have hK : vx_Back l R p e below s args y 3 8 (PreOf R mc ms Pc) (PostOf Qc mc ms free) (vx_Post XC mc ms free) := vx_back (bytes := bytes) (maxL := maxL) (ret := ret) hM hp.1 hrc hrs hfr hlo hws hcw (fun a' U hW => word_at hW (Or.inl (by first | rfl | simp [Cond.onTables, Cond.keeps, Cond.steady])) hini)
  obtain ⟨hx, hb, hml, ho, -⟩ := S
  have hPc := hp.2
  intro T hT X
  rcases vx_callSN X hx (bytes := bytes) (maxL := maxL) (ret := ret) ho hl hx1 hini hcode hy hK hg (hsize.trans hml.symm) (argsL := As) (rest := rest) (fun sig h => hn.trans (hlen sig h)) hstack hW (by rw [hb]; exact hdg)
    (fun vm₁ hW₁ => ⟨hf.1, hf.2, hPc (T.setVm vm₁) hT hW₁⟩) with ⟨v, vm₁, ⟨U', l2, c2, s2⟩, hW₁, X', ⟨g', mk, t, L, e1, e2, hq, h1, hL, h2, h3⟩, st⟩ | ⟨q, vm₁, ⟨U', l2, c2, s2⟩, hW₁, X', ⟨g', mk, t, L, E, ce, e1, e2, hq, hce, hcv, hcl, h1, hL, h2, h3⟩, st⟩
  · dsimp only [Pt.U, Pt.locs, Pt.cells, Pt.slots] at X' e1 e2 h1 h2 h3 st
    subst h1; subst h2; subst h3
    exact Or.inl ⟨v, (T.setVm vm₁).calling g' mk As.toArray, t, U', L, hT, X', hL, e1, e2, hq, st⟩
  · dsimp only [Pt.U, Pt.locs, Pt.cells, Pt.slots] at X' e1 e2 h1 h2 h3 st hcl
    subst h1; subst h2; subst h3
    exact Or.inr ⟨q, (T.setVm vm₁).calling g' mk As.toArray, t, U', L, E, ce, hT, X', hL, e1, e2, hq, hce, hcv, vx_cls hW₁ hcl, st⟩
end
/-! ===== END ===== -/
/-! ===== BEGIN calls by an interface of methods that may throw (vx_callIF, vx_runF follow va_callIF, va_runF of this kit) ===== -/
section
variable {p : Program} {l : Launch} {e : Env} {R : Room} {s : State} {m : MethodId} {args : Array Value} {below : List Frame} {meth : Method} {c : Code} {H : Heap} {locs : List Loc} {cells slots : Nat} {Q : State → Prop}
variable {mc ms : Nat} {free : Addr → Prop} {A0 A1 : Nat → Prop} {H0 : Heap} {a : Array Value} {pc : Nat} {ls : Array Slot} {st0 rest : List Value}
def vx_Run5 (p : Program) (l : Launch) (e : Env) (R : Room) (s : State) (m : MethodId) (args : Array Value) (below : List Frame) (meth : Method) (c : Code) (H : Heap) (locs : List Loc) (cells slots mc ms : Nat) (g : JFrame) (rest : List Value) (Qa : State → Outcome → State → Prop) (XC : String → State → State → Prop) (free : Addr → Prop) : Prop :=
  ∀ T : State, T.heap = H → Stand p l e R s m args below meth c T locs cells slots →
    (∃ (v : Option Value) (st₀ t T' : State) (L : List Loc), st₀.heap = H ∧ Stand p l e R s m args below meth c T' (locs ++ L) (cells + mc) (slots + ms) ∧ (∀ q ∈ L, free q.base) ∧ T'.heap = t.heap ∧ T'.vm = t.vm ∧ Qa st₀ (.returned v) t ∧
      Goes p e below T g T' { g with pc := g.pc + 5, stack := v.toList ++ rest }) ∨
    (∃ (q : Addr) (st₀ t T' : State) (L : List Loc) (E : String) (ce : Cell), st₀.heap = H ∧ Stand p l e R s m args below meth c T' (locs ++ L) (cells + mc) (slots + ms) ∧ (∀ z ∈ L, free z.base) ∧ T'.heap = t.heap ∧ T'.vm = t.vm ∧ XC E st₀ t ∧ t.heap[q]? = some ce ∧ ce.vm = .none ∧ s.vm.findClass E = some ce.cls ∧
      Steps p.tables e below (T.setTop g) ((T'.setTop { g with stack := rest }).pushFrame (.throwing q)))
theorem vx_callIF {T : State} (X : Stand p l e R s m args below meth c T locs cells slots) (hexec : p.tables.exec = Jvm.exec) {own C : String} {index count : Nat} {x y : MethodName} {bytes : ByteArray} {maxL : Nat} {ret : Option FieldType}
    (hown : s.vm.findClass own = some m.cls) (hlink : (Cond.methodLink own index x).before args s = true) (hdecl : (Cond.declares x).before args s = true) (hface : (Cond.interfaceMethod x.cls x.cls x.name x.desc).before args s = true)
    (hsel : (Cond.selects C x y).before args s = true) (hinst : (Cond.instanceMethod y).before args s = true) (hpub : (Cond.publicMethod y).before args s = true) (hunh : (Cond.unhidden C x.name x.desc).before args s = true)
    (hcast : (Cond.castable C x.cls).before args s = true) (hcode : (Cond.code y bytes maxL ret).before args s = true) (hx : x.cls ≠ "java/lang/invoke/MethodHandle" ∧ x.cls ≠ "java/lang/invoke/VarHandle")
    {W9 : Nat} {Pre : Pt → Array Value → Prop} {Post : Pt → Array Value → Option Value → Pt → Prop} {PostX : Pt → Array Value → Addr → Pt → Prop} (hK : vx_Back l R p e below s args y 5 W9 Pre Post PostX)
    {b : Addr} {cellB : Cell} {kB : Class} (hcell : T.heap[b]? = some cellB) (hobj : cellB.vm.isStatics = false) (hcls : s.vm.findClass C = some cellB.cls) (hkB : s.vm.classes[cellB.cls]? = some kB)
    {g : JFrame} (hg : g.method = m) (hsize : g.locals.size = c.maxLocals) {argsL rest : List Value} (hlen : ∀ sig, parseMethodDescriptor x.desc = some sig → argsL.length = sig.parameters.length)
    (hstack : g.stack = argsL.reverse ++ .ref b :: rest) (hW : 2 * g.monitorRoom + (rest.map fun v => v.category).sum ≤ W9) (hdg : decode c.code g.pc = .ok (.invokeinterface index count, 5))
    (hpre : ∀ vm₁, s.WarmedH vm₁ → Pre ⟨T.setVm vm₁, locs, cells, slots⟩ (Value.ref b :: argsL).toArray) :
    (∃ (v : Option Value) (vm₁ : Vm) (B : Pt), s.WarmedH vm₁ ∧ Stand p l e R s m args below meth c B.U B.locs B.cells B.slots ∧ Post ⟨T.setVm vm₁, locs, cells, slots⟩ (Value.ref b :: argsL).toArray v B ∧
      ∀ target, Steps p.tables e below (B.U.setTop { g with pc := g.pc + 5, stack := v.toList ++ rest }) target → Steps p.tables e below (T.setTop g) target) ∨
    (∃ (q : Addr) (vm₁ : Vm) (B : Pt), s.WarmedH vm₁ ∧ Stand p l e R s m args below meth c B.U B.locs B.cells B.slots ∧ PostX ⟨T.setVm vm₁, locs, cells, slots⟩ (Value.ref b :: argsL).toArray q B ∧
      Steps p.tables e below (T.setTop g) ((B.U.setTop { g with stack := rest }).pushFrame (.throwing q))) := by
  obtain ⟨r0, r, hn, hrm, hstR, hsigR⟩ := Cond.declares_spec hdecl
  obtain ⟨cL, kL, r1, hcL, hkL, hiL, hfoundL, hn1⟩ := Cond.interfaceMethod_spec hface
  cases hn.symm.trans hn1
  have hr0cls : r0.cls = cL := Option.some.inj ((findClass_of_methodNamed hn).symm.trans hcL)
  obtain ⟨hnameR, hdescR⟩ := name_of_methodNamed hn hrm
  obtain ⟨mk, methM, hnamed, hmethM, -, habM⟩ := Cond.instanceMethod_spec hinst
  obtain ⟨c2, r2, m2, q1, q2, q3, q4, -⟩ := Cond.selects_spec hsel
  cases hcls.symm.trans q1
  cases hfoundL.symm.trans q2
  cases hnamed.symm.trans q3
  have hselP : selectMethod e.platform s.vm cellB.cls r0 = .method mk := by rw [Launch.admits_selectMethod X.admits]; exact q4
  have hpubM : hasFlag methM.accessFlags Acc.public_ = true := Cond.publicMethod_spec hnamed hmethM hpub
  have hway : ((cellB.cls :: s.vm.superclasses cellB.cls).any fun k => (declaredIn s.vm r.name r.desc k).any fun (_, z) => z.isPrivate || z.isStatic) = false := by
    rw [hnameR, hdescR]; exact Cond.unhidden_spec hcls hunh
  obtain ⟨c3, t3, w1, w2, w3⟩ := Cond.castable_spec hcast
  cases hcls.symm.trans w1
  cases hcL.symm.trans w2
  obtain ⟨vm₁, X₁, hstep₁⟩ := X.invokeinterface hexec hown hlink hn hrm hstR (by rw [hr0cls]; exact hkL) hiL hx (a := b) (cell := cellB) (kcell := kB) hcell
    (fun z h => by rw [h] at hobj; cases hobj) hkB (by rw [hr0cls]; exact w3) hselP hmethM hway hpubM habM (g := g) hg (argsL := argsL) (rest := rest) (hlen _ hsigR) hstack hdg
  rcases hK m meth c ⟨T.setVm vm₁, locs, cells, slots⟩ { g with stack := rest } (.invokeinterface index count) mk (Value.ref b :: argsL).toArray X₁ hg hsize hdg hW (X₁.named hnamed) (hpre vm₁ X₁.warmed) with ⟨v, B, X', hpost, hsteps⟩ | ⟨q, B, X', hpost, hsteps⟩
  · exact Or.inl ⟨v, vm₁, B, X₁.warmed, X', hpost, fun target h => hstep₁ _ fun acts => by rw [doInvoke_state]; exact hsteps.trans h⟩
  · exact Or.inr ⟨q, vm₁, B, X₁.warmed, X', hpost, hstep₁ _ fun acts => by rw [doInvoke_state]; exact hsteps⟩
theorem vx_runF {x y : MethodName} {bytes cc : ByteArray} {maxL nL mc ms n index count : Nat} {ret : Option FieldType} {ws : List Cond} {rm : Room} {Pc : Array Value → State → Prop} {Qc : Array Value → State → Outcome → State → Prop} {XC : String → State → State → Prop} {free : Addr → Prop} {Ts : List Cond} {own C : String} {cC : ClassId} {b : Addr} {As rest : List Value} {g : JFrame}
    (hat : ClassAt s C cC) (S : CallFix p m c cc nL s args Ts own) (hM : vx_Met l y ws rm Pc Qc XC mc ms free) (cw : va_CI R s args own C index x y bytes maxL ret ws rm mc ms n) (hp : PreV s H C b Pc As)
    (hg : g.method = m) (hn : As.length = n) (hsize : g.locals.size = nL) (hstack : g.stack = As.reverse ++ .ref b :: rest) (hW : 2 * g.monitorRoom + (rest.map fun v => v.category).sum ≤ 8) (hdg : decode cc g.pc = .ok (.invokeinterface index count, 5)) (hf : cells + mc ≤ R.cells ∧ slots + ms ≤ R.slots) :
    vx_Run5 p l e R s m args below meth c H locs cells slots mc ms g rest (Qc (Value.ref b :: As).toArray) XC free := by
  obtain ⟨hrc, hrs, hfr, hlo, hws, hcw⟩ := cw.back
  have hini := cw.init
  have hK : vx_Back l R p e below s args y 5 8 (PreOf R mc ms Pc) (PostOf Qc mc ms free) (vx_Post XC mc ms free) := vx_back (bytes := bytes) (maxL := maxL) (ret := ret) hM hp.1 hrc hrs hfr hlo hws hcw (fun a' U hW => word_at hW (Or.inl (by first | rfl | simp [Cond.onTables, Cond.keeps, Cond.steady])) hini)
  obtain ⟨hx, hb, hml, ho, -⟩ := S
  obtain ⟨-, ⟨cellB, hcB, hoB, hclB⟩, hPc⟩ := hp
  obtain ⟨hfc, kB, hkB, -⟩ := hat
  cases hfc.symm.trans hclB
  intro T hT X
  rcases vx_callIF X hx (C := C) (bytes := bytes) (maxL := maxL) (ret := ret) ho cw.link cw.decl cw.face cw.sel cw.inst cw.pub cw.unh cw.cast cw.code cw.notMH hK (by rw [hT]; exact hcB) hoB hclB hkB hg (hsize.trans hml.symm) (argsL := As) (rest := rest) (fun sig h => hn.trans (cw.len sig h)) hstack hW (by rw [hb]; exact hdg)
    (fun vm₁ hW₁ => ⟨hf.1, hf.2, hPc (T.setVm vm₁) hT hW₁⟩) with ⟨v, vm₁, ⟨U', l2, c2, s2⟩, hW₁, X', ⟨g', mk, t, L, e1, e2, hq, h1, hL, h2, h3⟩, st⟩ | ⟨q, vm₁, ⟨U', l2, c2, s2⟩, hW₁, X', ⟨g', mk, t, L, E, ce, e1, e2, hq, hce, hcv, hcl, h1, hL, h2, h3⟩, st⟩
  · dsimp only [Pt.U, Pt.locs, Pt.cells, Pt.slots] at X' e1 e2 h1 h2 h3 st
    subst h1; subst h2; subst h3
    exact Or.inl ⟨v, (T.setVm vm₁).calling g' mk (Value.ref b :: As).toArray, t, U', L, hT, X', hL, e1, e2, hq, st⟩
  · dsimp only [Pt.U, Pt.locs, Pt.cells, Pt.slots] at X' e1 e2 h1 h2 h3 st hcl
    subst h1; subst h2; subst h3
    exact Or.inr ⟨q, (T.setVm vm₁).calling g' mk (Value.ref b :: As).toArray, t, U', L, E, ce, hT, X', hL, e1, e2, hq, hce, hcv, vx_cls hW₁ hcl, st⟩
theorem vx_callFv {S SX : Type} {post : S → Prop} {px : SX → Prop} {B : S → State → Prop} {BX : String → SX → State → Prop} {AX : Nat → Prop} (hr : vx_Run5 p l e R s m args below meth c H locs cells slots mc ms (F0 m pc ls st0) rest (va_Qv post B A1 a) (vx_X px BX AX) free) (hS : va_S A0 H0 H locs) (hA : ∀ q, q < H.size → A1 q → A0 q) (hf : ∀ q, free q → A0 q) (hAX : ∀ q, q < H.size → AX q → A0 q)
    (kx : ∀ (E : String) (ce : Cell) (q9 : Addr) (u : SX) (t : State) (H1 : Heap) (locs1 : List Loc), t.heap = H1 → s.vm.Alike t.vm → px u → BX E u t → H.size ≤ H1.size → (∀ q : Nat, q < H.size → ¬ AX q → H1[q]? = H[q]?) → va_S A0 H0 H1 locs1 → H1[q9]? = some ce → ce.vm = .none → s.vm.findClass E = some ce.cls → vx_W p l e R s m args below meth c H1 locs1 (cells + mc) (slots + ms) Q (F0 m pc ls rest) q9)
    (kk : ∀ (u : S) (t : State) (H1 : Heap) (locs1 : List Loc), t.heap = H1 → s.vm.Alike t.vm → post u → B u t → H.size ≤ H1.size → (∀ q : Nat, q < H.size → ¬ A1 q → H1[q]? = H[q]?) → va_S A0 H0 H1 locs1 → W p l e R s m args below meth c H1 locs1 (cells + mc) (slots + ms) Q (F0 m (pc + 5) ls (rest))) : W p l e R s m args below meth c H locs cells slots Q (F0 m pc ls st0) := by
  intro T hT X
  rcases hr T hT X with ⟨v, st₀, t, T', L, h0, X', hL, e1, e2, ⟨⟨u, hv, hp, hb⟩, hF⟩, st⟩ | ⟨q, st₀, t, T', L, E, ce, h0, X', hL, e1, e2, ⟨u, hp, hb, hF⟩, hce, hcv, hcl, st⟩
  · cases hv
    obtain ⟨k1, k2, k3⟩ := vx_keep h0 e1 hS hA hf hL hF
    obtain ⟨t2, a1, b1⟩ := kk u t T'.heap (locs ++ L) e1.symm (by rw [← e2]; exact X'.warmed.alike) hp hb k1 k2 k3 T' rfl X'
    exact ⟨t2, st t2 a1, b1⟩
  · obtain ⟨k1, k2, k3⟩ := vx_keep h0 e1 hS hAX hf hL hF
    obtain ⟨t2, a1, b1⟩ := kx E ce q u t T'.heap (locs ++ L) e1.symm (by rw [← e2]; exact X'.warmed.alike) hp hb k1 k2 k3 (by rw [e1]; exact hce) hcv hcl T' rfl X'
    exact ⟨t2, st.trans a1, b1⟩
theorem vx_callFi {S SX : Type} {post : Int32 → S → Prop} {px : SX → Prop} {B : S → State → Prop} {BX : String → SX → State → Prop} {AX : Nat → Prop} (hr : vx_Run5 p l e R s m args below meth c H locs cells slots mc ms (F0 m pc ls st0) rest (va_Qi post B A1 a) (vx_X px BX AX) free) (hS : va_S A0 H0 H locs) (hA : ∀ q, q < H.size → A1 q → A0 q) (hf : ∀ q, free q → A0 q) (hAX : ∀ q, q < H.size → AX q → A0 q)
    (kx : ∀ (E : String) (ce : Cell) (q9 : Addr) (u : SX) (t : State) (H1 : Heap) (locs1 : List Loc), t.heap = H1 → s.vm.Alike t.vm → px u → BX E u t → H.size ≤ H1.size → (∀ q : Nat, q < H.size → ¬ AX q → H1[q]? = H[q]?) → va_S A0 H0 H1 locs1 → H1[q9]? = some ce → ce.vm = .none → s.vm.findClass E = some ce.cls → vx_W p l e R s m args below meth c H1 locs1 (cells + mc) (slots + ms) Q (F0 m pc ls rest) q9)
    (kk : ∀ (r : Int32) (u : S) (t : State) (H1 : Heap) (locs1 : List Loc), t.heap = H1 → s.vm.Alike t.vm → post r u → B u t → H.size ≤ H1.size → (∀ q : Nat, q < H.size → ¬ A1 q → H1[q]? = H[q]?) → va_S A0 H0 H1 locs1 → W p l e R s m args below meth c H1 locs1 (cells + mc) (slots + ms) Q (F0 m (pc + 5) ls (.int r :: rest))) : W p l e R s m args below meth c H locs cells slots Q (F0 m pc ls st0) := by
  intro T hT X
  rcases hr T hT X with ⟨v, st₀, t, T', L, h0, X', hL, e1, e2, ⟨⟨r, u, hv, hp, hb⟩, hF⟩, st⟩ | ⟨q, st₀, t, T', L, E, ce, h0, X', hL, e1, e2, ⟨u, hp, hb, hF⟩, hce, hcv, hcl, st⟩
  · cases hv
    obtain ⟨k1, k2, k3⟩ := vx_keep h0 e1 hS hA hf hL hF
    obtain ⟨t2, a1, b1⟩ := kk r u t T'.heap (locs ++ L) e1.symm (by rw [← e2]; exact X'.warmed.alike) hp hb k1 k2 k3 T' rfl X'
    exact ⟨t2, st t2 a1, b1⟩
  · obtain ⟨k1, k2, k3⟩ := vx_keep h0 e1 hS hAX hf hL hF
    obtain ⟨t2, a1, b1⟩ := kx E ce q u t T'.heap (locs ++ L) e1.symm (by rw [← e2]; exact X'.warmed.alike) hp hb k1 k2 k3 (by rw [e1]; exact hce) hcv hcl T' rfl X'
    exact ⟨t2, st.trans a1, b1⟩
theorem vx_callFl {S SX : Type} {post : Int64 → S → Prop} {px : SX → Prop} {B : S → State → Prop} {BX : String → SX → State → Prop} {AX : Nat → Prop} (hr : vx_Run5 p l e R s m args below meth c H locs cells slots mc ms (F0 m pc ls st0) rest (va_Ql post B A1 a) (vx_X px BX AX) free) (hS : va_S A0 H0 H locs) (hA : ∀ q, q < H.size → A1 q → A0 q) (hf : ∀ q, free q → A0 q) (hAX : ∀ q, q < H.size → AX q → A0 q)
    (kx : ∀ (E : String) (ce : Cell) (q9 : Addr) (u : SX) (t : State) (H1 : Heap) (locs1 : List Loc), t.heap = H1 → s.vm.Alike t.vm → px u → BX E u t → H.size ≤ H1.size → (∀ q : Nat, q < H.size → ¬ AX q → H1[q]? = H[q]?) → va_S A0 H0 H1 locs1 → H1[q9]? = some ce → ce.vm = .none → s.vm.findClass E = some ce.cls → vx_W p l e R s m args below meth c H1 locs1 (cells + mc) (slots + ms) Q (F0 m pc ls rest) q9)
    (kk : ∀ (r : Int64) (u : S) (t : State) (H1 : Heap) (locs1 : List Loc), t.heap = H1 → s.vm.Alike t.vm → post r u → B u t → H.size ≤ H1.size → (∀ q : Nat, q < H.size → ¬ A1 q → H1[q]? = H[q]?) → va_S A0 H0 H1 locs1 → W p l e R s m args below meth c H1 locs1 (cells + mc) (slots + ms) Q (F0 m (pc + 5) ls (.long r :: rest))) : W p l e R s m args below meth c H locs cells slots Q (F0 m pc ls st0) := by
  intro T hT X
  rcases hr T hT X with ⟨v, st₀, t, T', L, h0, X', hL, e1, e2, ⟨⟨r, u, hv, hp, hb⟩, hF⟩, st⟩ | ⟨q, st₀, t, T', L, E, ce, h0, X', hL, e1, e2, ⟨u, hp, hb, hF⟩, hce, hcv, hcl, st⟩
  · cases hv
    obtain ⟨k1, k2, k3⟩ := vx_keep h0 e1 hS hA hf hL hF
    obtain ⟨t2, a1, b1⟩ := kk r u t T'.heap (locs ++ L) e1.symm (by rw [← e2]; exact X'.warmed.alike) hp hb k1 k2 k3 T' rfl X'
    exact ⟨t2, st t2 a1, b1⟩
  · obtain ⟨k1, k2, k3⟩ := vx_keep h0 e1 hS hAX hf hL hF
    obtain ⟨t2, a1, b1⟩ := kx E ce q u t T'.heap (locs ++ L) e1.symm (by rw [← e2]; exact X'.warmed.alike) hp hb k1 k2 k3 (by rw [e1]; exact hce) hcv hcl T' rfl X'
    exact ⟨t2, st.trans a1, b1⟩
theorem vx_callFf {S SX : Type} {post : UInt32 → S → Prop} {px : SX → Prop} {B : S → State → Prop} {BX : String → SX → State → Prop} {AX : Nat → Prop} (hr : vx_Run5 p l e R s m args below meth c H locs cells slots mc ms (F0 m pc ls st0) rest (va_Qf post B A1 a) (vx_X px BX AX) free) (hS : va_S A0 H0 H locs) (hA : ∀ q, q < H.size → A1 q → A0 q) (hf : ∀ q, free q → A0 q) (hAX : ∀ q, q < H.size → AX q → A0 q)
    (kx : ∀ (E : String) (ce : Cell) (q9 : Addr) (u : SX) (t : State) (H1 : Heap) (locs1 : List Loc), t.heap = H1 → s.vm.Alike t.vm → px u → BX E u t → H.size ≤ H1.size → (∀ q : Nat, q < H.size → ¬ AX q → H1[q]? = H[q]?) → va_S A0 H0 H1 locs1 → H1[q9]? = some ce → ce.vm = .none → s.vm.findClass E = some ce.cls → vx_W p l e R s m args below meth c H1 locs1 (cells + mc) (slots + ms) Q (F0 m pc ls rest) q9)
    (kk : ∀ (r : UInt32) (u : S) (t : State) (H1 : Heap) (locs1 : List Loc), t.heap = H1 → s.vm.Alike t.vm → post r u → B u t → H.size ≤ H1.size → (∀ q : Nat, q < H.size → ¬ A1 q → H1[q]? = H[q]?) → va_S A0 H0 H1 locs1 → W p l e R s m args below meth c H1 locs1 (cells + mc) (slots + ms) Q (F0 m (pc + 5) ls (.float r :: rest))) : W p l e R s m args below meth c H locs cells slots Q (F0 m pc ls st0) := by
  intro T hT X
  rcases hr T hT X with ⟨v, st₀, t, T', L, h0, X', hL, e1, e2, ⟨⟨r, u, hv, hp, hb⟩, hF⟩, st⟩ | ⟨q, st₀, t, T', L, E, ce, h0, X', hL, e1, e2, ⟨u, hp, hb, hF⟩, hce, hcv, hcl, st⟩
  · cases hv
    obtain ⟨k1, k2, k3⟩ := vx_keep h0 e1 hS hA hf hL hF
    obtain ⟨t2, a1, b1⟩ := kk r u t T'.heap (locs ++ L) e1.symm (by rw [← e2]; exact X'.warmed.alike) hp hb k1 k2 k3 T' rfl X'
    exact ⟨t2, st t2 a1, b1⟩
  · obtain ⟨k1, k2, k3⟩ := vx_keep h0 e1 hS hAX hf hL hF
    obtain ⟨t2, a1, b1⟩ := kx E ce q u t T'.heap (locs ++ L) e1.symm (by rw [← e2]; exact X'.warmed.alike) hp hb k1 k2 k3 (by rw [e1]; exact hce) hcv hcl T' rfl X'
    exact ⟨t2, st.trans a1, b1⟩
theorem vx_callFd {S SX : Type} {post : UInt64 → S → Prop} {px : SX → Prop} {B : S → State → Prop} {BX : String → SX → State → Prop} {AX : Nat → Prop} (hr : vx_Run5 p l e R s m args below meth c H locs cells slots mc ms (F0 m pc ls st0) rest (va_Qd post B A1 a) (vx_X px BX AX) free) (hS : va_S A0 H0 H locs) (hA : ∀ q, q < H.size → A1 q → A0 q) (hf : ∀ q, free q → A0 q) (hAX : ∀ q, q < H.size → AX q → A0 q)
    (kx : ∀ (E : String) (ce : Cell) (q9 : Addr) (u : SX) (t : State) (H1 : Heap) (locs1 : List Loc), t.heap = H1 → s.vm.Alike t.vm → px u → BX E u t → H.size ≤ H1.size → (∀ q : Nat, q < H.size → ¬ AX q → H1[q]? = H[q]?) → va_S A0 H0 H1 locs1 → H1[q9]? = some ce → ce.vm = .none → s.vm.findClass E = some ce.cls → vx_W p l e R s m args below meth c H1 locs1 (cells + mc) (slots + ms) Q (F0 m pc ls rest) q9)
    (kk : ∀ (r : UInt64) (u : S) (t : State) (H1 : Heap) (locs1 : List Loc), t.heap = H1 → s.vm.Alike t.vm → post r u → B u t → H.size ≤ H1.size → (∀ q : Nat, q < H.size → ¬ A1 q → H1[q]? = H[q]?) → va_S A0 H0 H1 locs1 → W p l e R s m args below meth c H1 locs1 (cells + mc) (slots + ms) Q (F0 m (pc + 5) ls (.double r :: rest))) : W p l e R s m args below meth c H locs cells slots Q (F0 m pc ls st0) := by
  intro T hT X
  rcases hr T hT X with ⟨v, st₀, t, T', L, h0, X', hL, e1, e2, ⟨⟨r, u, hv, hp, hb⟩, hF⟩, st⟩ | ⟨q, st₀, t, T', L, E, ce, h0, X', hL, e1, e2, ⟨u, hp, hb, hF⟩, hce, hcv, hcl, st⟩
  · cases hv
    obtain ⟨k1, k2, k3⟩ := vx_keep h0 e1 hS hA hf hL hF
    obtain ⟨t2, a1, b1⟩ := kk r u t T'.heap (locs ++ L) e1.symm (by rw [← e2]; exact X'.warmed.alike) hp hb k1 k2 k3 T' rfl X'
    exact ⟨t2, st t2 a1, b1⟩
  · obtain ⟨k1, k2, k3⟩ := vx_keep h0 e1 hS hAX hf hL hF
    obtain ⟨t2, a1, b1⟩ := kx E ce q u t T'.heap (locs ++ L) e1.symm (by rw [← e2]; exact X'.warmed.alike) hp hb k1 k2 k3 (by rw [e1]; exact hce) hcv hcl T' rfl X'
    exact ⟨t2, st.trans a1, b1⟩
end
/-! ===== END ===== -/
/-! ===== BEGIN by an interface, a method with a table of its own that may throw (follows va_callIFW, va_runFW) ===== -/
section
variable {p : Program} {l : Launch} {e : Env} {R : Room} {s : State} {m : MethodId} {args : Array Value} {below : List Frame} {meth : Method} {c : Code} {H : Heap} {locs : List Loc} {cells slots : Nat}
theorem vx_callIFW {T : State} (X : Stand p l e R s m args below meth c T locs cells slots) (hexec : p.tables.exec = Jvm.exec) {own C : String} {index count : Nat} {x y : MethodName} {bytes : ByteArray} {maxL : Nat} {ret : Option FieldType} {hh : List (Nat × Nat × Nat × Nat)}
    (hown : s.vm.findClass own = some m.cls) (hlink : (Cond.methodLink own index x).before args s = true) (hdecl : (Cond.declares x).before args s = true) (hface : (Cond.interfaceMethod x.cls x.cls x.name x.desc).before args s = true)
    (hsel : (Cond.selects C x y).before args s = true) (hinst : (Cond.instanceMethod y).before args s = true) (hpub : (Cond.publicMethod y).before args s = true) (hunh : (Cond.unhidden C x.name x.desc).before args s = true)
    (hcast : (Cond.castable C x.cls).before args s = true) (hcode : (Cond.codeWith y bytes maxL ret hh).before args s = true) (hx : x.cls ≠ "java/lang/invoke/MethodHandle" ∧ x.cls ≠ "java/lang/invoke/VarHandle")
    {W : Nat} {Pre : Pt → Array Value → Prop} {Post : Pt → Array Value → Option Value → Pt → Prop} {PostX : Pt → Array Value → Addr → Pt → Prop} (hK : vx_Back l R p e below s args y 5 W Pre Post PostX)
    {b : Addr} {cellB : Cell} {kB : Class} (hcell : T.heap[b]? = some cellB) (hobj : cellB.vm.isStatics = false) (hcls : s.vm.findClass C = some cellB.cls) (hkB : s.vm.classes[cellB.cls]? = some kB)
    {g : JFrame} (hg : g.method = m) (hsize : g.locals.size = c.maxLocals) {argsL rest : List Value} (hlen : ∀ sig, parseMethodDescriptor x.desc = some sig → argsL.length = sig.parameters.length)
    (hstack : g.stack = argsL.reverse ++ .ref b :: rest) (hW : 2 * g.monitorRoom + (rest.map fun v => v.category).sum ≤ W) (hdg : decode c.code g.pc = .ok (.invokeinterface index count, 5))
    (hpre : ∀ vm₁, s.WarmedH vm₁ → Pre ⟨T.setVm vm₁, locs, cells, slots⟩ (Value.ref b :: argsL).toArray) :
    (∃ (v : Option Value) (vm₁ : Vm) (B : Pt), s.WarmedH vm₁ ∧ Stand p l e R s m args below meth c B.U B.locs B.cells B.slots ∧ Post ⟨T.setVm vm₁, locs, cells, slots⟩ (Value.ref b :: argsL).toArray v B ∧
      ∀ target, Steps p.tables e below (B.U.setTop { g with pc := g.pc + 5, stack := v.toList ++ rest }) target → Steps p.tables e below (T.setTop g) target) ∨
    (∃ (q : Addr) (vm₁ : Vm) (B : Pt), s.WarmedH vm₁ ∧ Stand p l e R s m args below meth c B.U B.locs B.cells B.slots ∧ PostX ⟨T.setVm vm₁, locs, cells, slots⟩ (Value.ref b :: argsL).toArray q B ∧
      Steps p.tables e below (T.setTop g) ((B.U.setTop { g with stack := rest }).pushFrame (.throwing q))) := by
  obtain ⟨r0, r, hn, hrm, hstR, hsigR⟩ := Cond.declares_spec hdecl
  obtain ⟨cL, kL, r1, hcL, hkL, hiL, hfoundL, hn1⟩ := Cond.interfaceMethod_spec hface
  cases hn.symm.trans hn1
  have hr0cls : r0.cls = cL := Option.some.inj ((findClass_of_methodNamed hn).symm.trans hcL)
  obtain ⟨hnameR, hdescR⟩ := name_of_methodNamed hn hrm
  obtain ⟨mk, methM, hnamed, hmethM, -, habM⟩ := Cond.instanceMethod_spec hinst
  obtain ⟨c2, r2, m2, q1, q2, q3, q4, -⟩ := Cond.selects_spec hsel
  cases hcls.symm.trans q1
  cases hfoundL.symm.trans q2
  cases hnamed.symm.trans q3
  have hselP : selectMethod e.platform s.vm cellB.cls r0 = .method mk := by rw [Launch.admits_selectMethod X.admits]; exact q4
  have hpubM : hasFlag methM.accessFlags Acc.public_ = true := Cond.publicMethod_spec hnamed hmethM hpub
  have hway : ((cellB.cls :: s.vm.superclasses cellB.cls).any fun k => (declaredIn s.vm r.name r.desc k).any fun (_, z) => z.isPrivate || z.isStatic) = false := by
    rw [hnameR, hdescR]; exact Cond.unhidden_spec hcls hunh
  obtain ⟨c3, t3, w1, w2, w3⟩ := Cond.castable_spec hcast
  cases hcls.symm.trans w1
  cases hcL.symm.trans w2
  obtain ⟨vm₁, X₁, hstep₁⟩ := X.invokeinterface hexec hown hlink hn hrm hstR (by rw [hr0cls]; exact hkL) hiL hx (a := b) (cell := cellB) (kcell := kB) hcell
    (fun z h => by rw [h] at hobj; cases hobj) hkB (by rw [hr0cls]; exact w3) hselP hmethM hway hpubM habM (g := g) hg (argsL := argsL) (rest := rest) (hlen _ hsigR) hstack hdg
  rcases hK m meth c ⟨T.setVm vm₁, locs, cells, slots⟩ { g with stack := rest } (.invokeinterface index count) mk (Value.ref b :: argsL).toArray X₁ hg hsize hdg hW (X₁.named hnamed) (hpre vm₁ X₁.warmed) with ⟨v, B, X', hpost, hsteps⟩ | ⟨q, B, X', hpost, hsteps⟩
  · exact Or.inl ⟨v, vm₁, B, X₁.warmed, X', hpost, fun target h => hstep₁ _ fun acts => by rw [doInvoke_state]; exact hsteps.trans h⟩
  · exact Or.inr ⟨q, vm₁, B, X₁.warmed, X', hpost, hstep₁ _ fun acts => by rw [doInvoke_state]; exact hsteps⟩
theorem vx_runFW {x y : MethodName} {bytes cc : ByteArray} {maxL nL mc ms n index count : Nat} {ret : Option FieldType} {hh : List (Nat × Nat × Nat × Nat)} {ws : List Cond} {rm : Room} {Pc : Array Value → State → Prop} {Qc : Array Value → State → Outcome → State → Prop} {XC : String → State → State → Prop} {free : Addr → Prop} {Ts : List Cond} {own C : String} {cC : ClassId} {b : Addr} {As rest : List Value} {g : JFrame}
    (hat : ClassAt s C cC) (S : CallFix p m c cc nL s args Ts own) (hM : vx_Met l y ws rm Pc Qc XC mc ms free) (cw : va_CIW R s args own C index x y bytes maxL ret hh ws rm mc ms n) (hp : PreV s H C b Pc As)
    (hg : g.method = m) (hn : As.length = n) (hsize : g.locals.size = nL) (hstack : g.stack = As.reverse ++ .ref b :: rest) (hW : 2 * g.monitorRoom + (rest.map fun v => v.category).sum ≤ 8) (hdg : decode cc g.pc = .ok (.invokeinterface index count, 5)) (hf : cells + mc ≤ R.cells ∧ slots + ms ≤ R.slots) :
    vx_Run5 p l e R s m args below meth c H locs cells slots mc ms g rest (Qc (Value.ref b :: As).toArray) XC free := by
  obtain ⟨hrc, hrs, hfr, hlo, hws, hcw⟩ := cw.back
  have hini := cw.init
  have hK : vx_Back l R p e below s args y 5 8 (PreOf R mc ms Pc) (PostOf Qc mc ms free) (vx_Post XC mc ms free) := vx_backW (hh := hh) (bytes := bytes) (maxL := maxL) (ret := ret) hM hp.1 hrc hrs hfr hlo hws hcw (fun a' U hW => word_at hW (Or.inl (by first | rfl | simp [Cond.onTables, Cond.keeps, Cond.steady])) hini)
  obtain ⟨hx, hb, hml, ho, -⟩ := S
  obtain ⟨-, ⟨cellB, hcB, hoB, hclB⟩, hPc⟩ := hp
  obtain ⟨hfc, kB, hkB, -⟩ := hat
  cases hfc.symm.trans hclB
  intro T hT X
  rcases vx_callIFW X hx (C := C) (hh := hh) (bytes := bytes) (maxL := maxL) (ret := ret) ho cw.link cw.decl cw.face cw.sel cw.inst cw.pub cw.unh cw.cast cw.code cw.notMH hK (by rw [hT]; exact hcB) hoB hclB hkB hg (hsize.trans hml.symm) (argsL := As) (rest := rest) (fun sig h => hn.trans (cw.len sig h)) hstack hW (by rw [hb]; exact hdg)
    (fun vm₁ hW₁ => ⟨hf.1, hf.2, hPc (T.setVm vm₁) hT hW₁⟩) with ⟨v, vm₁, ⟨U', l2, c2, s2⟩, hW₁, X', ⟨g', mk, t, L, e1, e2, hq, h1, hL, h2, h3⟩, st⟩ | ⟨q, vm₁, ⟨U', l2, c2, s2⟩, hW₁, X', ⟨g', mk, t, L, E, ce, e1, e2, hq, hce, hcv, hcl, h1, hL, h2, h3⟩, st⟩
  · dsimp only [Pt.U, Pt.locs, Pt.cells, Pt.slots] at X' e1 e2 h1 h2 h3 st
    subst h1; subst h2; subst h3
    exact Or.inl ⟨v, (T.setVm vm₁).calling g' mk (Value.ref b :: As).toArray, t, U', L, hT, X', hL, e1, e2, hq, st⟩
  · dsimp only [Pt.U, Pt.locs, Pt.cells, Pt.slots] at X' e1 e2 h1 h2 h3 st hcl
    subst h1; subst h2; subst h3
    exact Or.inr ⟨q, (T.setVm vm₁).calling g' mk (Value.ref b :: As).toArray, t, U', L, E, ce, hT, X', hL, e1, e2, hq, hce, hcv, vx_cls hW₁ hcl, st⟩
end
/-! ===== END ===== -/
/-! ===== BEGIN .. of methods that hand back an object of the pool ===== -/
section
variable {p : Program} {l : Launch} {e : Env} {R : Room} {s : State} {m : MethodId} {args : Array Value} {below : List Frame} {meth : Method} {c : Code} {H : Heap} {locs : List Loc} {cells slots : Nat} {Q : State → Prop}
variable {mc ms : Nat} {free : Addr → Prop} {A0 A1 : Nat → Prop} {H0 : Heap} {a : Array Value} {pc : Nat} {ls : Array Slot} {st0 rest : List Value}
theorem vx_callq {S SX : Type} {post : Option Nat → S → Prop} {px : SX → Prop} {B : S → State → Prop} {BX : String → SX → State → Prop} {AX : Nat → Prop} (hr : vx_Run p l e R s m args below meth c H locs cells slots mc ms (F0 m pc ls st0) rest (va_Qq post B A1 a) (vx_X px BX AX) free) (hS : va_S A0 H0 H locs) (hA : ∀ q, q < H.size → A1 q → A0 q) (hf : ∀ q, free q → A0 q) (hAX : ∀ q, q < H.size → AX q → A0 q)
    (kx : ∀ (E : String) (ce : Cell) (q9 : Addr) (u : SX) (t : State) (H1 : Heap) (locs1 : List Loc), t.heap = H1 → s.vm.Alike t.vm → px u → BX E u t → H.size ≤ H1.size → (∀ q : Nat, q < H.size → ¬ AX q → H1[q]? = H[q]?) → va_S A0 H0 H1 locs1 → H1[q9]? = some ce → ce.vm = .none → s.vm.findClass E = some ce.cls → vx_W p l e R s m args below meth c H1 locs1 (cells + mc) (slots + ms) Q (F0 m pc ls rest) q9)
    (kk : ∀ (r : Option Nat) (u : S) (t : State) (H1 : Heap) (locs1 : List Loc), t.heap = H1 → s.vm.Alike t.vm → post r u → B u t → H.size ≤ H1.size → (∀ q : Nat, q < H.size → ¬ A1 q → H1[q]? = H[q]?) → va_S A0 H0 H1 locs1 → W p l e R s m args below meth c H1 locs1 (cells + mc) (slots + ms) Q (F0 m (pc + 3) ls (va_rf r :: rest))) : W p l e R s m args below meth c H locs cells slots Q (F0 m pc ls st0) := by
  intro T hT X
  rcases hr T hT X with ⟨v, st₀, t, T', L, h0, X', hL, e1, e2, ⟨⟨r, u, hv, hp, hb⟩, hF⟩, st⟩ | ⟨q, st₀, t, T', L, E, ce, h0, X', hL, e1, e2, ⟨u, hp, hb, hF⟩, hce, hcv, hcl, st⟩
  · cases hv
    obtain ⟨k1, k2, k3⟩ := vx_keep h0 e1 hS hA hf hL hF
    obtain ⟨t2, a1, b1⟩ := kk r u t T'.heap (locs ++ L) e1.symm (by rw [← e2]; exact X'.warmed.alike) hp hb k1 k2 k3 T' rfl X'
    exact ⟨t2, st t2 a1, b1⟩
  · obtain ⟨k1, k2, k3⟩ := vx_keep h0 e1 hS hAX hf hL hF
    obtain ⟨t2, a1, b1⟩ := kx E ce q u t T'.heap (locs ++ L) e1.symm (by rw [← e2]; exact X'.warmed.alike) hp hb k1 k2 k3 (by rw [e1]; exact hce) hcv hcl T' rfl X'
    exact ⟨t2, st.trans a1, b1⟩
end
/-! ===== END ===== -/
/-! ===== BEGIN .. a constant ===== -/
section
variable {p : Program} {l : Launch} {e : Env} {R : Room} {s : State} {m : MethodId} {args : Array Value} {below : List Frame} {meth : Method} {c : Code} {H : Heap} {locs : List Loc} {cells slots : Nat} {Q : State → Prop}
variable {mc ms : Nat} {free : Addr → Prop} {A0 A1 : Nat → Prop} {H0 : Heap} {a : Array Value} {pc : Nat} {ls : Array Slot} {st0 rest : List Value}
theorem vx_calle {ad : Nat → Nat} {S SX : Type} {post : Option Nat → S → Prop} {px : SX → Prop} {B : S → State → Prop} {BX : String → SX → State → Prop} {AX : Nat → Prop} (hr : vx_Run p l e R s m args below meth c H locs cells slots mc ms (F0 m pc ls st0) rest (va_Qe ad post B A1 a) (vx_X px BX AX) free) (hS : va_S A0 H0 H locs) (hA : ∀ q, q < H.size → A1 q → A0 q) (hf : ∀ q, free q → A0 q) (hAX : ∀ q, q < H.size → AX q → A0 q)
    (kx : ∀ (E : String) (ce : Cell) (q9 : Addr) (u : SX) (t : State) (H1 : Heap) (locs1 : List Loc), t.heap = H1 → s.vm.Alike t.vm → px u → BX E u t → H.size ≤ H1.size → (∀ q : Nat, q < H.size → ¬ AX q → H1[q]? = H[q]?) → va_S A0 H0 H1 locs1 → H1[q9]? = some ce → ce.vm = .none → s.vm.findClass E = some ce.cls → vx_W p l e R s m args below meth c H1 locs1 (cells + mc) (slots + ms) Q (F0 m pc ls rest) q9)
    (kk : ∀ (r : Option Nat) (u : S) (t : State) (H1 : Heap) (locs1 : List Loc), t.heap = H1 → s.vm.Alike t.vm → post r u → B u t → H.size ≤ H1.size → (∀ q : Nat, q < H.size → ¬ A1 q → H1[q]? = H[q]?) → va_S A0 H0 H1 locs1 → W p l e R s m args below meth c H1 locs1 (cells + mc) (slots + ms) Q (F0 m (pc + 3) ls (va_re ad r :: rest))) : W p l e R s m args below meth c H locs cells slots Q (F0 m pc ls st0) := by
  intro T hT X
  rcases hr T hT X with ⟨v, st₀, t, T', L, h0, X', hL, e1, e2, ⟨⟨r, u, hv, hp, hb⟩, hF⟩, st⟩ | ⟨q, st₀, t, T', L, E, ce, h0, X', hL, e1, e2, ⟨u, hp, hb, hF⟩, hce, hcv, hcl, st⟩
  · cases hv
    obtain ⟨k1, k2, k3⟩ := vx_keep h0 e1 hS hA hf hL hF
    obtain ⟨t2, a1, b1⟩ := kk r u t T'.heap (locs ++ L) e1.symm (by rw [← e2]; exact X'.warmed.alike) hp hb k1 k2 k3 T' rfl X'
    exact ⟨t2, st t2 a1, b1⟩
  · obtain ⟨k1, k2, k3⟩ := vx_keep h0 e1 hS hAX hf hL hF
    obtain ⟨t2, a1, b1⟩ := kx E ce q u t T'.heap (locs ++ L) e1.symm (by rw [← e2]; exact X'.warmed.alike) hp hb k1 k2 k3 (by rw [e1]; exact hce) hcv hcl T' rfl X'
    exact ⟨t2, st.trans a1, b1⟩
end
/-! ===== END ===== -/
/-! ===== BEGIN .. by an interface, an object ===== -/
section
variable {p : Program} {l : Launch} {e : Env} {R : Room} {s : State} {m : MethodId} {args : Array Value} {below : List Frame} {meth : Method} {c : Code} {H : Heap} {locs : List Loc} {cells slots : Nat} {Q : State → Prop}
variable {mc ms : Nat} {free : Addr → Prop} {A0 A1 : Nat → Prop} {H0 : Heap} {a : Array Value} {pc : Nat} {ls : Array Slot} {st0 rest : List Value}
theorem vx_callFq {S SX : Type} {post : Option Nat → S → Prop} {px : SX → Prop} {B : S → State → Prop} {BX : String → SX → State → Prop} {AX : Nat → Prop} (hr : vx_Run5 p l e R s m args below meth c H locs cells slots mc ms (F0 m pc ls st0) rest (va_Qq post B A1 a) (vx_X px BX AX) free) (hS : va_S A0 H0 H locs) (hA : ∀ q, q < H.size → A1 q → A0 q) (hf : ∀ q, free q → A0 q) (hAX : ∀ q, q < H.size → AX q → A0 q)
    (kx : ∀ (E : String) (ce : Cell) (q9 : Addr) (u : SX) (t : State) (H1 : Heap) (locs1 : List Loc), t.heap = H1 → s.vm.Alike t.vm → px u → BX E u t → H.size ≤ H1.size → (∀ q : Nat, q < H.size → ¬ AX q → H1[q]? = H[q]?) → va_S A0 H0 H1 locs1 → H1[q9]? = some ce → ce.vm = .none → s.vm.findClass E = some ce.cls → vx_W p l e R s m args below meth c H1 locs1 (cells + mc) (slots + ms) Q (F0 m pc ls rest) q9)
    (kk : ∀ (r : Option Nat) (u : S) (t : State) (H1 : Heap) (locs1 : List Loc), t.heap = H1 → s.vm.Alike t.vm → post r u → B u t → H.size ≤ H1.size → (∀ q : Nat, q < H.size → ¬ A1 q → H1[q]? = H[q]?) → va_S A0 H0 H1 locs1 → W p l e R s m args below meth c H1 locs1 (cells + mc) (slots + ms) Q (F0 m (pc + 5) ls (va_rf r :: rest))) : W p l e R s m args below meth c H locs cells slots Q (F0 m pc ls st0) := by
  intro T hT X
  rcases hr T hT X with ⟨v, st₀, t, T', L, h0, X', hL, e1, e2, ⟨⟨r, u, hv, hp, hb⟩, hF⟩, st⟩ | ⟨q, st₀, t, T', L, E, ce, h0, X', hL, e1, e2, ⟨u, hp, hb, hF⟩, hce, hcv, hcl, st⟩
  · cases hv
    obtain ⟨k1, k2, k3⟩ := vx_keep h0 e1 hS hA hf hL hF
    obtain ⟨t2, a1, b1⟩ := kk r u t T'.heap (locs ++ L) e1.symm (by rw [← e2]; exact X'.warmed.alike) hp hb k1 k2 k3 T' rfl X'
    exact ⟨t2, st t2 a1, b1⟩
  · obtain ⟨k1, k2, k3⟩ := vx_keep h0 e1 hS hAX hf hL hF
    obtain ⟨t2, a1, b1⟩ := kx E ce q u t T'.heap (locs ++ L) e1.symm (by rw [← e2]; exact X'.warmed.alike) hp hb k1 k2 k3 (by rw [e1]; exact hce) hcv hcl T' rfl X'
    exact ⟨t2, st.trans a1, b1⟩
end
/-! ===== END ===== -/
/-! ===== BEGIN .. by an interface, a constant ===== -/
section
variable {p : Program} {l : Launch} {e : Env} {R : Room} {s : State} {m : MethodId} {args : Array Value} {below : List Frame} {meth : Method} {c : Code} {H : Heap} {locs : List Loc} {cells slots : Nat} {Q : State → Prop}
variable {mc ms : Nat} {free : Addr → Prop} {A0 A1 : Nat → Prop} {H0 : Heap} {a : Array Value} {pc : Nat} {ls : Array Slot} {st0 rest : List Value}
theorem vx_callFe {ad : Nat → Nat} {S SX : Type} {post : Option Nat → S → Prop} {px : SX → Prop} {B : S → State → Prop} {BX : String → SX → State → Prop} {AX : Nat → Prop} (hr : vx_Run5 p l e R s m args below meth c H locs cells slots mc ms (F0 m pc ls st0) rest (va_Qe ad post B A1 a) (vx_X px BX AX) free) (hS : va_S A0 H0 H locs) (hA : ∀ q, q < H.size → A1 q → A0 q) (hf : ∀ q, free q → A0 q) (hAX : ∀ q, q < H.size → AX q → A0 q)
    (kx : ∀ (E : String) (ce : Cell) (q9 : Addr) (u : SX) (t : State) (H1 : Heap) (locs1 : List Loc), t.heap = H1 → s.vm.Alike t.vm → px u → BX E u t → H.size ≤ H1.size → (∀ q : Nat, q < H.size → ¬ AX q → H1[q]? = H[q]?) → va_S A0 H0 H1 locs1 → H1[q9]? = some ce → ce.vm = .none → s.vm.findClass E = some ce.cls → vx_W p l e R s m args below meth c H1 locs1 (cells + mc) (slots + ms) Q (F0 m pc ls rest) q9)
    (kk : ∀ (r : Option Nat) (u : S) (t : State) (H1 : Heap) (locs1 : List Loc), t.heap = H1 → s.vm.Alike t.vm → post r u → B u t → H.size ≤ H1.size → (∀ q : Nat, q < H.size → ¬ A1 q → H1[q]? = H[q]?) → va_S A0 H0 H1 locs1 → W p l e R s m args below meth c H1 locs1 (cells + mc) (slots + ms) Q (F0 m (pc + 5) ls (va_re ad r :: rest))) : W p l e R s m args below meth c H locs cells slots Q (F0 m pc ls st0) := by
  intro T hT X
  rcases hr T hT X with ⟨v, st₀, t, T', L, h0, X', hL, e1, e2, ⟨⟨r, u, hv, hp, hb⟩, hF⟩, st⟩ | ⟨q, st₀, t, T', L, E, ce, h0, X', hL, e1, e2, ⟨u, hp, hb, hF⟩, hce, hcv, hcl, st⟩
  · cases hv
    obtain ⟨k1, k2, k3⟩ := vx_keep h0 e1 hS hA hf hL hF
    obtain ⟨t2, a1, b1⟩ := kk r u t T'.heap (locs ++ L) e1.symm (by rw [← e2]; exact X'.warmed.alike) hp hb k1 k2 k3 T' rfl X'
    exact ⟨t2, st t2 a1, b1⟩
  · obtain ⟨k1, k2, k3⟩ := vx_keep h0 e1 hS hAX hf hL hF
    obtain ⟨t2, a1, b1⟩ := kx E ce q u t T'.heap (locs ++ L) e1.symm (by rw [← e2]; exact X'.warmed.alike) hp hb k1 k2 k3 (by rw [e1]; exact hce) hcv hcl T' rfl X'
    exact ⟨t2, st.trans a1, b1⟩
end
/-! ===== END ===== -/
/-! ===== BEGIN what the machine throws by itself: null at a field, at athrow ===== -/
section VXM2
variable {p : Program} {l : Launch} {e : Env} {R : Room} {s : State} {m : MethodId} {args : Array Value} {below : List Frame} {meth : Method} {c : Code} {H : Heap} {locs : List Loc} {cells slots : Nat}
variable {Q : State → Prop} {cc : ByteArray} {pc : Nat} {ls : Array Slot} {rest : List Value}
theorem vx_getfN {D cl tys} {own ref C : String} {T : u_T} {N ci index : Nat} {Ts : List Cond} (hexec : p.tables.exec = Jvm.exec) (hb : c.code = cc) (hts : ∀ w ∈ Ts, w.before args s = true) (hin : ∀ w ∈ u_ws C T N, w ∈ Ts) (hown : s.vm.findClass own = some m.cls) (hK : va_K D cl tys s) (hc : cl[ci]? = some (C, T, N)) (k : Nat) (hk : k < N) (hlink : (Cond.fieldLink own index ref (T k).2.1 (T k).2.2.1).before args s = true) (hsame : ∀ x, s.fieldFound? (T k).1 (T k).2.1 (T k).2.2.1 = some x → s.fieldFound? ref (T k).2.1 (T k).2.2.1 = some x) (hdg : decode cc pc = .ok (.getfield index, 3)) (kk : vx_NoteN p l e R s m args below meth c H locs cells slots Q (F0 m pc ls rest)) : W p l e R s m args below meth c H locs cells slots Q (F0 m pc ls (.null :: rest)) := by
  obtain ⟨hS, hfc, kC, hkC, -⟩ := hK.1 ci _ hc
  obtain ⟨cf, kf, fi, f, hi, -⟩ := hS k hk
  intro U hU X
  obtain ⟨vm', X1, st1⟩ := X.getfieldNull hexec hown hlink (hsame _ hi) (u_facts hfc hkC (u_lays hts hin hk) hi).1 (g := F0 m pc ls (.null :: rest)) rfl (rest := rest) rfl (by rw [hb]; exact hdg)
  obtain ⟨t, st, q⟩ := kk (U.setVm vm') hU X1
  exact ⟨t, st1 t st, q⟩
theorem vx_getfNN {D cl tys} {own ref C host : String} {T : u_T} {N ci index : Nat} {Ts : List Cond} (hexec : p.tables.exec = Jvm.exec) (hb : c.code = cc) (hts : ∀ w ∈ Ts, w.before args s = true) (hin : ∀ w ∈ u_ws C T N, w ∈ Ts) (hown : s.vm.findClass own = some m.cls) (hK : va_K D cl tys s) (hc : cl[ci]? = some (C, T, N)) (k : Nat) (hk : k < N) (hlink : (Cond.fieldLinkNest own index ref (T k).2.1 (T k).2.2.1 host).before args s = true) (hsame : ∀ x, s.fieldFound? (T k).1 (T k).2.1 (T k).2.2.1 = some x → s.fieldFound? ref (T k).2.1 (T k).2.2.1 = some x) (hdg : decode cc pc = .ok (.getfield index, 3)) (kk : vx_NoteN p l e R s m args below meth c H locs cells slots Q (F0 m pc ls rest)) : W p l e R s m args below meth c H locs cells slots Q (F0 m pc ls (.null :: rest)) := by
  obtain ⟨hS, hfc, kC, hkC, -⟩ := hK.1 ci _ hc
  obtain ⟨cf, kf, fi, f, hi, -⟩ := hS k hk
  intro U hU X
  obtain ⟨vm', X1, st1⟩ := X.getfieldNullNest hexec hown hlink (hsame _ hi) (u_facts hfc hkC (u_lays hts hin hk) hi).1 (g := F0 m pc ls (.null :: rest)) rfl (rest := rest) rfl (by rw [hb]; exact hdg)
  obtain ⟨t, st, q⟩ := kk (U.setVm vm') hU X1
  exact ⟨t, st1 t st, q⟩
theorem vx_putfN {D cl tys} {own ref C : String} {T : u_T} {N ci index : Nat} {Ts : List Cond} (hexec : p.tables.exec = Jvm.exec) (hb : c.code = cc) (hts : ∀ w ∈ Ts, w.before args s = true) (hin : ∀ w ∈ u_ws C T N, w ∈ Ts) (hown : s.vm.findClass own = some m.cls) (hK : va_K D cl tys s) (hc : cl[ci]? = some (C, T, N)) (k : Nat) (hk : k < N) (hlink : (Cond.fieldLink own index ref (T k).2.1 (T k).2.2.1).before args s = true) (hsame : ∀ x, s.fieldFound? (T k).1 (T k).2.1 (T k).2.2.1 = some x → s.fieldFound? ref (T k).2.1 (T k).2.2.1 = some x) (hfin : (T k).2.2.2 = false) {v : Value} (hdg : decode cc pc = .ok (.putfield index, 3)) (kk : vx_NoteN p l e R s m args below meth c H locs cells slots Q (F0 m pc ls rest)) : W p l e R s m args below meth c H locs cells slots Q (F0 m pc ls (v :: .null :: rest)) := by
  obtain ⟨hS, hfc, kC, hkC, -⟩ := hK.1 ci _ hc
  obtain ⟨cf, kf, fi, f, hi, -⟩ := hS k hk
  have hlay := hts _ (hin _ (u_in_lay hk))
  unfold u_lay at hlay
  rw [if_neg (by rw [hfin]; decide)] at hlay
  obtain ⟨c9, k9, cf9, kf9, fi9, f9, -, -, hi9, hst9, hnf9, -⟩ := Cond.lays_spec hlay
  cases hi.symm.trans hi9
  intro U hU X
  obtain ⟨vm', X1, st1⟩ := X.putfieldNull hexec hown hlink (hsame _ hi) hst9 hnf9 (g := F0 m pc ls (v :: .null :: rest)) rfl (v := v) (rest := rest) rfl (by rw [hb]; exact hdg)
  obtain ⟨t, st, q⟩ := kk (U.setVm vm') hU X1
  exact ⟨t, st1 t st, q⟩
theorem vx_putfNN {D cl tys} {own ref C host : String} {T : u_T} {N ci index : Nat} {Ts : List Cond} (hexec : p.tables.exec = Jvm.exec) (hb : c.code = cc) (hts : ∀ w ∈ Ts, w.before args s = true) (hin : ∀ w ∈ u_ws C T N, w ∈ Ts) (hown : s.vm.findClass own = some m.cls) (hK : va_K D cl tys s) (hc : cl[ci]? = some (C, T, N)) (k : Nat) (hk : k < N) (hlink : (Cond.fieldLinkNest own index ref (T k).2.1 (T k).2.2.1 host).before args s = true) (hsame : ∀ x, s.fieldFound? (T k).1 (T k).2.1 (T k).2.2.1 = some x → s.fieldFound? ref (T k).2.1 (T k).2.2.1 = some x) (hfin : (T k).2.2.2 = false) {v : Value} (hdg : decode cc pc = .ok (.putfield index, 3)) (kk : vx_NoteN p l e R s m args below meth c H locs cells slots Q (F0 m pc ls rest)) : W p l e R s m args below meth c H locs cells slots Q (F0 m pc ls (v :: .null :: rest)) := by
  obtain ⟨hS, hfc, kC, hkC, -⟩ := hK.1 ci _ hc
  obtain ⟨cf, kf, fi, f, hi, -⟩ := hS k hk
  have hlay := hts _ (hin _ (u_in_lay hk))
  unfold u_lay at hlay
  rw [if_neg (by rw [hfin]; decide)] at hlay
  obtain ⟨c9, k9, cf9, kf9, fi9, f9, -, -, hi9, hst9, hnf9, -⟩ := Cond.lays_spec hlay
  cases hi.symm.trans hi9
  intro U hU X
  obtain ⟨vm', X1, st1⟩ := X.putfieldNullNest hexec hown hlink (hsame _ hi) hst9 hnf9 (g := F0 m pc ls (v :: .null :: rest)) rfl (v := v) (rest := rest) rfl (by rw [hb]; exact hdg)
  obtain ⟨t, st, q⟩ := kk (U.setVm vm') hU X1
  exact ⟨t, st1 t st, q⟩
theorem vx_athrowN (hexec : p.tables.exec = Jvm.exec) (hb : c.code = cc) (hdg : decode cc pc = .ok (.athrow, 1)) (k : vx_NoteN p l e R s m args below meth c H locs cells slots Q (F0 m pc ls rest)) : W p l e R s m args below meth c H locs cells slots Q (F0 m pc ls (.null :: rest)) := by
  intro T hT X
  obtain ⟨t, st, q⟩ := k T hT X
  exact ⟨t, X.athrowNull hexec (g := F0 m pc ls (.null :: rest)) rfl (rest := rest) rfl (by rw [hb]; exact hdg) t st, q⟩
end VXM2
/-! ===== END ===== -/
end
section
/-! names, fields, decode rows: as printed of the program, those that are walked here -/
def RX0 : String := "StatementCycle$Account"
def TX0 : u_T := fun k => match k with
  | 0 => ("StatementCycle$Account", "events", "Ljava/util/ArrayList;", true)
  | 1 => ("StatementCycle$Account", "byDay", "Ljava/util/ArrayList;", true)
  | 2 => ("StatementCycle$Account", "disputed", "Ljava/util/ArrayList;", true)
  | 3 => ("StatementCycle$Account", "firstCycle", "I", true)
  | 4 => ("StatementCycle$Account", "balancesTold", "[J", true)
  | 5 => ("StatementCycle$Account", "books", "LStatementCycle$Books;", true)
  | 6 => ("StatementCycle$Account", "limit", "I", false)
  | 7 => ("StatementCycle$Account", "isBlocked", "Z", false)
  | _ => ("StatementCycle$Account", "isStale", "Z", false)
def tyX0 : Nat → FieldType := fun k => match k with
  | 0 => .object "java/util/ArrayList"
  | 1 => .object "java/util/ArrayList"
  | 2 => .object "java/util/ArrayList"
  | 3 => .int
  | 4 => .array .long
  | 5 => .object "StatementCycle$Books"
  | 6 => .int
  | 7 => .boolean
  | _ => .boolean
theorem nmX0 : ∀ a, a < 9 → ∀ b, b < 9 → a ≠ b → (TX0 a).2.1 ≠ (TX0 b).2.1 := by decide +kernel
theorem tyX0_ok : ∀ k, k < 9 → parseFieldDescriptor (TX0 k).2.2.1 = some (tyX0 k) := by decide +kernel
def yX0_init : MethodName := ⟨RX0, "<init>", "(II)V"⟩
def RX1 : String := "StatementCycle$Books"
def TX1 : u_T := fun k => match k with
  | 0 => ("StatementCycle$Books", "owed", "[J", true)
  | 1 => ("StatementCycle$Books", "accrued", "[J", true)
  | 2 => ("StatementCycle$Books", "rates", "[I", true)
  | 3 => ("StatementCycle$Books", "ratesOfDay", "[I", true)
  | 4 => ("StatementCycle$Books", "statements", "[LStatementCycle$Statement;", true)
  | 5 => ("StatementCycle$Books", "credit", "J", false)
  | 6 => ("StatementCycle$Books", "promotedRate", "I", false)
  | 7 => ("StatementCycle$Books", "promotedUntil", "I", false)
  | 8 => ("StatementCycle$Books", "planUntil", "I", false)
  | 9 => ("StatementCycle$Books", "isOff", "Z", false)
  | 10 => ("StatementCycle$Books", "paidSinceClosing", "J", false)
  | 11 => ("StatementCycle$Books", "feesOfCycle", "J", false)
  | 12 => ("StatementCycle$Books", "lateFees", "J", false)
  | 13 => ("StatementCycle$Books", "closed", "I", false)
  | 14 => ("StatementCycle$Books", "dueStatements", "I", false)
  | 15 => ("StatementCycle$Books", "missedStatements", "I", false)
  | _ => ("StatementCycle$Books", "missedInARow", "I", false)
def tyX1 : Nat → FieldType := fun k => match k with
  | 0 => .array .long
  | 1 => .array .long
  | 2 => .array .int
  | 3 => .array .int
  | 4 => .array (.object "StatementCycle$Statement")
  | 5 => .long
  | 6 => .int
  | 7 => .int
  | 8 => .int
  | 9 => .boolean
  | 10 => .long
  | 11 => .long
  | 12 => .long
  | 13 => .int
  | 14 => .int
  | 15 => .int
  | _ => .int
theorem nmX1 : ∀ a, a < 17 → ∀ b, b < 17 → a ≠ b → (TX1 a).2.1 ≠ (TX1 b).2.1 := by decide +kernel
theorem tyX1_ok : ∀ k, k < 17 → parseFieldDescriptor (TX1 k).2.2.1 = some (tyX1 k) := by decide +kernel
abbrev cX1_init : ByteArray := prog_3_method_1_code
def yX1_init : MethodName := ⟨RX1, "<init>", "()V"⟩
def RX3 : String := "StatementCycle$Statement"
def TX3 : u_T := fun k => match k with
  | 0 => ("StatementCycle$Statement", "balance", "J", false)
  | 1 => ("StatementCycle$Statement", "least", "J", false)
  | 2 => ("StatementCycle$Statement", "interest", "J", false)
  | 3 => ("StatementCycle$Statement", "isWithGrace", "Z", false)
  | _ => ("StatementCycle$Statement", "outcome", "C", false)
def tyX3 : Nat → FieldType := fun k => match k with
  | 0 => .long
  | 1 => .long
  | 2 => .long
  | 3 => .boolean
  | _ => .char
theorem nmX3 : ∀ a, a < 5 → ∀ b, b < 5 → a ≠ b → (TX3 a).2.1 ≠ (TX3 b).2.1 := by decide +kernel
theorem tyX3_ok : ∀ k, k < 5 → parseFieldDescriptor (TX3 k).2.2.1 = some (tyX3 k) := by decide +kernel
abbrev cX3_init : ByteArray := prog_5_method_1_code
def yX3_init : MethodName := ⟨RX3, "<init>", "()V"⟩
def RX4 : String := "StatementCycle"
def TX4 : u_T := fun k => match k with
  | 0 => ("StatementCycle", "accounts", "Ljava/util/ArrayList;", true)
  | 1 => ("StatementCycle", "worths", "[I", true)
  | 2 => ("StatementCycle", "recomputed", "LStatementCycle$Books;", true)
  | _ => ("StatementCycle", "day", "I", false)
def tyX4 : Nat → FieldType := fun k => match k with
  | 0 => .object "java/util/ArrayList"
  | 1 => .array .int
  | 2 => .object "StatementCycle$Books"
  | _ => .int
theorem nmX4 : ∀ a, a < 4 → ∀ b, b < 4 → a ≠ b → (TX4 a).2.1 ≠ (TX4 b).2.1 := by decide +kernel
theorem tyX4_ok : ∀ k, k < 4 → parseFieldDescriptor (TX4 k).2.2.1 = some (tyX4 k) := by decide +kernel
abbrev cX4_init : ByteArray := prog_1_method_1_code
def yX4_init : MethodName := ⟨RX4, "<init>", "()V"⟩
abbrev cX4_setLimit : ByteArray := prog_1_method_3_code
def yX4_setLimit : MethodName := ⟨RX4, "setLimit", "(II)I"⟩
abbrev cX4_block : ByteArray := prog_1_method_4_code
def yX4_block : MethodName := ⟨RX4, "block", "(IZ)Z"⟩
abbrev cX4_setRate : ByteArray := prog_1_method_5_code
def yX4_setRate : MethodName := ⟨RX4, "setRate", "(ICI)I"⟩
abbrev cX4_promote : ByteArray := prog_1_method_6_code
def yX4_promote : MethodName := ⟨RX4, "promote", "(III)I"⟩
abbrev cX4_buy : ByteArray := prog_1_method_8_code
def yX4_buy : MethodName := ⟨RX4, "buy", "(ICI)I"⟩
abbrev cX4_buyOn : ByteArray := prog_1_method_9_code
def yX4_buyOn : MethodName := ⟨RX4, "buyOn", "(ICII)I"⟩
abbrev cX4_abroad : ByteArray := prog_1_method_10_code
def yX4_abroad : MethodName := ⟨RX4, "abroad", "(III)I"⟩
abbrev cX4_pay : ByteArray := prog_1_method_11_code
def yX4_pay : MethodName := ⟨RX4, "pay", "(II)I"⟩
abbrev cX4_returns : ByteArray := prog_1_method_12_code
def yX4_returns : MethodName := ⟨RX4, "returns", "(II)I"⟩
abbrev cX4_dispute : ByteArray := prog_1_method_13_code
def yX4_dispute : MethodName := ⟨RX4, "dispute", "(II)I"⟩
abbrev cX4_settle : ByteArray := prog_1_method_14_code
def yX4_settle : MethodName := ⟨RX4, "settle", "(IIZ)J"⟩
abbrev cX4_reverse : ByteArray := prog_1_method_15_code
def yX4_reverse : MethodName := ⟨RX4, "reverse", "(II)J"⟩
abbrev cX4_plan : ByteArray := prog_1_method_16_code
def yX4_plan : MethodName := ⟨RX4, "plan", "(I)I"⟩
abbrev cX4_redeem : ByteArray := prog_1_method_17_code
def yX4_redeem : MethodName := ⟨RX4, "redeem", "(II)I"⟩
abbrev cX4_owed : ByteArray := prog_1_method_19_code
def yX4_owed : MethodName := ⟨RX4, "owed", "(I)J"⟩
abbrev cX4_bucket : ByteArray := prog_1_method_20_code
def yX4_bucket : MethodName := ⟨RX4, "bucket", "(IC)J"⟩
abbrev cX4_credit : ByteArray := prog_1_method_21_code
def yX4_credit : MethodName := ⟨RX4, "credit", "(I)J"⟩
abbrev cX4_statement : ByteArray := prog_1_method_22_code
def yX4_statement : MethodName := ⟨RX4, "statement", "(II)J"⟩
abbrev cX4_told : ByteArray := prog_1_method_23_code
def yX4_told : MethodName := ⟨RX4, "told", "(II)J"⟩
abbrev cX4_difference : ByteArray := prog_1_method_24_code
def yX4_difference : MethodName := ⟨RX4, "difference", "(II)J"⟩
abbrev cX4_least : ByteArray := prog_1_method_25_code
def yX4_least : MethodName := ⟨RX4, "least", "(II)J"⟩
abbrev cX4_interest : ByteArray := prog_1_method_26_code
def yX4_interest : MethodName := ⟨RX4, "interest", "(II)J"⟩
abbrev cX4_hadGrace : ByteArray := prog_1_method_27_code
def yX4_hadGrace : MethodName := ⟨RX4, "hadGrace", "(II)Z"⟩
abbrev cX4_paid : ByteArray := prog_1_method_28_code
def yX4_paid : MethodName := ⟨RX4, "paid", "(II)C"⟩
abbrev cX4_missing : ByteArray := prog_1_method_29_code
def yX4_missing : MethodName := ⟨RX4, "missing", "(I)J"⟩
abbrev cX4_missed : ByteArray := prog_1_method_30_code
def yX4_missed : MethodName := ⟨RX4, "missed", "(I)I"⟩
abbrev cX4_isOff : ByteArray := prog_1_method_31_code
def yX4_isOff : MethodName := ⟨RX4, "isOff", "(I)Z"⟩
abbrev cX4_points : ByteArray := prog_1_method_32_code
def yX4_points : MethodName := ⟨RX4, "points", "(I)J"⟩
abbrev cX4_events : ByteArray := prog_1_method_33_code
def yX4_events : MethodName := ⟨RX4, "events", "(I)I"⟩
abbrev cX4_kindOf : ByteArray := prog_1_method_34_code
def yX4_kindOf : MethodName := ⟨RX4, "kindOf", "(II)C"⟩
abbrev cX4_isBack : ByteArray := prog_1_method_35_code
def yX4_isBack : MethodName := ⟨RX4, "isBack", "(II)Z"⟩
abbrev cX4_sum : ByteArray := prog_1_method_36_code
def yX4_sum : MethodName := ⟨RX4, "sum", "(II)I"⟩
abbrev cX4_why : ByteArray := prog_1_method_37_code
def yX4_why : MethodName := ⟨RX4, "why", "(ICI)C"⟩
abbrev cX4_reasons : ByteArray := prog_1_method_38_code
def yX4_reasons : MethodName := ⟨RX4, "reasons", "(ICI)I"⟩
abbrev cX4_accountAt : ByteArray := prog_1_method_45_code
def yX4_accountAt : MethodName := ⟨RX4, "accountAt", "(I)LStatementCycle$Account;"⟩
def RX5 : String := "StatementCycleModel$Account"
def TX5 : u_T := fun k => match k with
  | 0 => ("StatementCycleModel$Account", "limit", "I", false)
  | 1 => ("StatementCycleModel$Account", "isBlocked", "Z", false)
  | 2 => ("StatementCycleModel$Account", "events", "Ljava/util/List;", true)
  | _ => ("StatementCycleModel$Account", "told", "[Ljava/lang/Long;", true)
def tyX5 : Nat → FieldType := fun k => match k with
  | 0 => .int
  | 1 => .boolean
  | 2 => .object "java/util/List"
  | _ => .array (.object "java/lang/Long")
theorem nmX5 : ∀ a, a < 4 → ∀ b, b < 4 → a ≠ b → (TX5 a).2.1 ≠ (TX5 b).2.1 := by decide +kernel
theorem tyX5_ok : ∀ k, k < 4 → parseFieldDescriptor (TX5 k).2.2.1 = some (tyX5 k) := by decide +kernel
def yX5_init : MethodName := ⟨RX5, "<init>", "()V"⟩
def RX8 : String := "StatementCycleModel"
def TX8 : u_T := fun k => match k with
  | 0 => ("StatementCycleModel", "accounts", "Ljava/util/List;", true)
  | 1 => ("StatementCycleModel", "currencies", "[I", true)
  | 2 => ("StatementCycleModel", "day", "I", false)
  | _ => ("StatementCycleModel", "thrown", "I", false)
def tyX8 : Nat → FieldType := fun k => match k with
  | 0 => .object "java/util/List"
  | 1 => .array .int
  | 2 => .int
  | _ => .int
theorem nmX8 : ∀ a, a < 4 → ∀ b, b < 4 → a ≠ b → (TX8 a).2.1 ≠ (TX8 b).2.1 := by decide +kernel
theorem tyX8_ok : ∀ k, k < 4 → parseFieldDescriptor (TX8 k).2.2.1 = some (tyX8 k) := by decide +kernel
abbrev cX8_init : ByteArray := prog_7_method_1_code
def yX8_init : MethodName := ⟨RX8, "<init>", "()V"⟩
abbrev cX8_thrown : ByteArray := prog_7_method_2_code
def yX8_thrown : MethodName := ⟨RX8, "thrown", "()I"⟩
abbrev cX8_no : ByteArray := prog_7_method_3_code
def yX8_no : MethodName := ⟨RX8, "no", "(ZI)Z"⟩
abbrev cX8_isIn : ByteArray := prog_7_method_4_code
def yX8_isIn : MethodName := ⟨RX8, "isIn", "(III)Z"⟩
abbrev cX8_isAccount : ByteArray := prog_7_method_5_code
def yX8_isAccount : MethodName := ⟨RX8, "isAccount", "(I)Z"⟩
abbrev cX8_isEvent : ByteArray := prog_7_method_6_code
def yX8_isEvent : MethodName := ⟨RX8, "isEvent", "(II)Z"⟩
abbrev cX8_setLimit : ByteArray := prog_7_method_13_code
def yX8_setLimit : MethodName := ⟨RX8, "setLimit", "(II)I"⟩
abbrev cX8_block : ByteArray := prog_7_method_14_code
def yX8_block : MethodName := ⟨RX8, "block", "(IZ)Z"⟩
abbrev cX8_setRate : ByteArray := prog_7_method_15_code
def yX8_setRate : MethodName := ⟨RX8, "setRate", "(ICI)I"⟩
abbrev cX8_promote : ByteArray := prog_7_method_16_code
def yX8_promote : MethodName := ⟨RX8, "promote", "(III)I"⟩
abbrev cX8_buy : ByteArray := prog_7_method_20_code
def yX8_buy : MethodName := ⟨RX8, "buy", "(ICI)I"⟩
abbrev cX8_buyOn : ByteArray := prog_7_method_21_code
def yX8_buyOn : MethodName := ⟨RX8, "buyOn", "(ICII)I"⟩
abbrev cX8_abroad : ByteArray := prog_7_method_22_code
def yX8_abroad : MethodName := ⟨RX8, "abroad", "(III)I"⟩
abbrev cX8_pay : ByteArray := prog_7_method_23_code
def yX8_pay : MethodName := ⟨RX8, "pay", "(II)I"⟩
abbrev cX8_returns : ByteArray := prog_7_method_24_code
def yX8_returns : MethodName := ⟨RX8, "returns", "(II)I"⟩
abbrev cX8_dispute : ByteArray := prog_7_method_25_code
def yX8_dispute : MethodName := ⟨RX8, "dispute", "(II)I"⟩
abbrev cX8_settle : ByteArray := prog_7_method_26_code
def yX8_settle : MethodName := ⟨RX8, "settle", "(IIZ)J"⟩
abbrev cX8_reverse : ByteArray := prog_7_method_27_code
def yX8_reverse : MethodName := ⟨RX8, "reverse", "(II)J"⟩
abbrev cX8_plan : ByteArray := prog_7_method_28_code
def yX8_plan : MethodName := ⟨RX8, "plan", "(I)I"⟩
abbrev cX8_redeem : ByteArray := prog_7_method_30_code
def yX8_redeem : MethodName := ⟨RX8, "redeem", "(II)I"⟩
abbrev cX8_owed : ByteArray := prog_7_method_32_code
def yX8_owed : MethodName := ⟨RX8, "owed", "(I)J"⟩
abbrev cX8_bucket : ByteArray := prog_7_method_33_code
def yX8_bucket : MethodName := ⟨RX8, "bucket", "(IC)J"⟩
abbrev cX8_credit : ByteArray := prog_7_method_34_code
def yX8_credit : MethodName := ⟨RX8, "credit", "(I)J"⟩
abbrev cX8_statement : ByteArray := prog_7_method_36_code
def yX8_statement : MethodName := ⟨RX8, "statement", "(II)J"⟩
abbrev cX8_told : ByteArray := prog_7_method_38_code
def yX8_told : MethodName := ⟨RX8, "told", "(II)J"⟩
abbrev cX8_difference : ByteArray := prog_7_method_39_code
def yX8_difference : MethodName := ⟨RX8, "difference", "(II)J"⟩
abbrev cX8_least : ByteArray := prog_7_method_40_code
def yX8_least : MethodName := ⟨RX8, "least", "(II)J"⟩
abbrev cX8_interest : ByteArray := prog_7_method_41_code
def yX8_interest : MethodName := ⟨RX8, "interest", "(II)J"⟩
abbrev cX8_hadGrace : ByteArray := prog_7_method_42_code
def yX8_hadGrace : MethodName := ⟨RX8, "hadGrace", "(II)Z"⟩
abbrev cX8_paid : ByteArray := prog_7_method_43_code
def yX8_paid : MethodName := ⟨RX8, "paid", "(II)C"⟩
abbrev cX8_missing : ByteArray := prog_7_method_44_code
def yX8_missing : MethodName := ⟨RX8, "missing", "(I)J"⟩
abbrev cX8_missed : ByteArray := prog_7_method_45_code
def yX8_missed : MethodName := ⟨RX8, "missed", "(I)I"⟩
abbrev cX8_isOff : ByteArray := prog_7_method_46_code
def yX8_isOff : MethodName := ⟨RX8, "isOff", "(I)Z"⟩
abbrev cX8_points : ByteArray := prog_7_method_47_code
def yX8_points : MethodName := ⟨RX8, "points", "(I)J"⟩
abbrev cX8_events : ByteArray := prog_7_method_48_code
def yX8_events : MethodName := ⟨RX8, "events", "(I)I"⟩
abbrev cX8_kindOf : ByteArray := prog_7_method_49_code
def yX8_kindOf : MethodName := ⟨RX8, "kindOf", "(II)C"⟩
abbrev cX8_isBack : ByteArray := prog_7_method_50_code
def yX8_isBack : MethodName := ⟨RX8, "isBack", "(II)Z"⟩
abbrev cX8_sum : ByteArray := prog_7_method_51_code
def yX8_sum : MethodName := ⟨RX8, "sum", "(II)I"⟩
abbrev cX8_why : ByteArray := prog_7_method_52_code
def yX8_why : MethodName := ⟨RX8, "why", "(ICI)C"⟩
abbrev cX8_reasons : ByteArray := prog_7_method_53_code
def yX8_reasons : MethodName := ⟨RX8, "reasons", "(ICI)I"⟩
def RJxa1e45 : String := "java/util/AbstractCollection"
abbrev cJxa1e45_init_da8c8 : ByteArray := prog_40_method_1_code
def yJxa1e45_init_da8c8 : MethodName := ⟨RJxa1e45, "<init>", "()V"⟩
def RJxc12de : String := "java/util/AbstractList"
abbrev cJxc12de_init_da8c8 : ByteArray := prog_41_method_1_code
def yJxc12de_init_da8c8 : MethodName := ⟨RJxc12de, "<init>", "()V"⟩
def RJx35411 : String := "java/util/ArrayList$Itr"
def TJx35411 : u_T := fun k => match k with
  | 0 => ("java/util/ArrayList$Itr", "cursor", "I", false)
  | 1 => ("java/util/ArrayList$Itr", "lastRet", "I", false)
  | 2 => ("java/util/ArrayList$Itr", "expectedModCount", "I", false)
  | _ => ("java/util/ArrayList$Itr", "this$0", "Ljava/util/ArrayList;", true)
def tyJx35411 : Nat → FieldType := fun k => match k with
  | 0 => .int
  | 1 => .int
  | 2 => .int
  | _ => .object "java/util/ArrayList"
theorem nmJx35411 : ∀ a, a < 4 → ∀ b, b < 4 → a ≠ b → (TJx35411 a).2.1 ≠ (TJx35411 b).2.1 := by decide +kernel
theorem tyJx35411_ok : ∀ k, k < 4 → parseFieldDescriptor (TJx35411 k).2.2.1 = some (tyJx35411 k) := by decide +kernel
def yJx35411_hasNext_aae02 : MethodName := ⟨RJx35411, "hasNext", "()Z"⟩
def RJx4a65c : String := "java/util/ArrayList"
def TJx4a65c : u_T := fun k => match k with
  | 0 => ("java/util/AbstractList", "modCount", "I", false)
  | 1 => ("java/util/ArrayList", "elementData", "[Ljava/lang/Object;", false)
  | _ => ("java/util/ArrayList", "size", "I", false)
def tyJx4a65c : Nat → FieldType := fun k => match k with
  | 0 => .int
  | 1 => .array (.object "java/lang/Object")
  | _ => .int
theorem nmJx4a65c : ∀ a, a < 3 → ∀ b, b < 3 → a ≠ b → (TJx4a65c a).2.1 ≠ (TJx4a65c b).2.1 := by decide +kernel
theorem tyJx4a65c_ok : ∀ k, k < 3 → parseFieldDescriptor (TJx4a65c k).2.2.1 = some (tyJx4a65c k) := by decide +kernel
abbrev cJx4a65c_init_da8c8 : ByteArray := prog_42_method_2_code
def yJx4a65c_init_da8c8 : MethodName := ⟨RJx4a65c, "<init>", "()V"⟩
abbrev cJx4a65c_size_8abf5 : ByteArray := prog_42_method_8_code
def yJx4a65c_size_8abf5 : MethodName := ⟨RJx4a65c, "size", "()I"⟩
def yJx4a65c_isEmpty_aae02 : MethodName := ⟨RJx4a65c, "isEmpty", "()Z"⟩
def yJx4a65c_get_915e3 : MethodName := ⟨RJx4a65c, "get", "(I)Ljava/lang/Object;"⟩
def yJx4a65c_add_9ea2d : MethodName := ⟨RJx4a65c, "add", "(Ljava/lang/Object;)Z"⟩
def yJx4a65c_iterator_32c93 : MethodName := ⟨RJx4a65c, "iterator", "()Ljava/util/Iterator;"⟩
theorem dJx4a65c_init_da8c8_0 : decode cJx4a65c_init_da8c8 0 = .ok (.aload_n 0, 1) := by decide +kernel
theorem dJx4a65c_init_da8c8_1 : decode cJx4a65c_init_da8c8 1 = .ok (.invokespecial 1, 3) := by decide +kernel
theorem dJx4a65c_init_da8c8_4 : decode cJx4a65c_init_da8c8 4 = .ok (.aload_n 0, 1) := by decide +kernel
theorem dJx4a65c_init_da8c8_5 : decode cJx4a65c_init_da8c8 5 = .ok (.getstatic 39, 3) := by decide +kernel
theorem dJx4a65c_init_da8c8_8 : decode cJx4a65c_init_da8c8 8 = .ok (.putfield 9, 3) := by decide +kernel
theorem dJx4a65c_init_da8c8_11 : decode cJx4a65c_init_da8c8 11 = .ok (.return_, 1) := by decide +kernel
theorem dJx4a65c_size_8abf5_0 : decode cJx4a65c_size_8abf5 0 = .ok (.aload_n 0, 1) := by decide +kernel
theorem dJx4a65c_size_8abf5_1 : decode cJx4a65c_size_8abf5 1 = .ok (.getfield 48, 3) := by decide +kernel
theorem dJx4a65c_size_8abf5_4 : decode cJx4a65c_size_8abf5 4 = .ok (.ireturn, 1) := by decide +kernel
theorem dJxa1e45_init_da8c8_0 : decode cJxa1e45_init_da8c8 0 = .ok (.aload_n 0, 1) := by decide +kernel
theorem dJxa1e45_init_da8c8_1 : decode cJxa1e45_init_da8c8 1 = .ok (.invokespecial 1, 3) := by decide +kernel
theorem dJxa1e45_init_da8c8_4 : decode cJxa1e45_init_da8c8 4 = .ok (.return_, 1) := by decide +kernel
theorem dJxc12de_init_da8c8_0 : decode cJxc12de_init_da8c8 0 = .ok (.aload_n 0, 1) := by decide +kernel
theorem dJxc12de_init_da8c8_1 : decode cJxc12de_init_da8c8 1 = .ok (.invokespecial 1, 3) := by decide +kernel
theorem dJxc12de_init_da8c8_4 : decode cJxc12de_init_da8c8 4 = .ok (.aload_n 0, 1) := by decide +kernel
theorem dJxc12de_init_da8c8_5 : decode cJxc12de_init_da8c8 5 = .ok (.iconst 0, 1) := by decide +kernel
theorem dJxc12de_init_da8c8_6 : decode cJxc12de_init_da8c8 6 = .ok (.putfield 7, 3) := by decide +kernel
theorem dJxc12de_init_da8c8_9 : decode cJxc12de_init_da8c8 9 = .ok (.return_, 1) := by decide +kernel
theorem dX1_init_0 : decode cX1_init 0 = .ok (.aload_n 0, 1) := by decide +kernel
theorem dX1_init_1 : decode cX1_init 1 = .ok (.invokespecial 3, 3) := by decide +kernel
theorem dX1_init_4 : decode cX1_init 4 = .ok (.aload_n 0, 1) := by decide +kernel
theorem dX1_init_5 : decode cX1_init 5 = .ok (.iconst 3, 1) := by decide +kernel
theorem dX1_init_6 : decode cX1_init 6 = .ok (.newarray .long, 2) := by decide +kernel
theorem dX1_init_8 : decode cX1_init 8 = .ok (.putfield 9, 3) := by decide +kernel
theorem dX1_init_11 : decode cX1_init 11 = .ok (.aload_n 0, 1) := by decide +kernel
theorem dX1_init_12 : decode cX1_init 12 = .ok (.iconst 3, 1) := by decide +kernel
theorem dX1_init_13 : decode cX1_init 13 = .ok (.newarray .long, 2) := by decide +kernel
theorem dX1_init_15 : decode cX1_init 15 = .ok (.putfield 15, 3) := by decide +kernel
theorem dX1_init_18 : decode cX1_init 18 = .ok (.aload_n 0, 1) := by decide +kernel
theorem dX1_init_19 : decode cX1_init 19 = .ok (.iconst 3, 1) := by decide +kernel
theorem dX1_init_20 : decode cX1_init 20 = .ok (.newarray .int, 2) := by decide +kernel
theorem dX1_init_22 : decode cX1_init 22 = .ok (.putfield 18, 3) := by decide +kernel
theorem dX1_init_25 : decode cX1_init 25 = .ok (.aload_n 0, 1) := by decide +kernel
theorem dX1_init_26 : decode cX1_init 26 = .ok (.iconst 3, 1) := by decide +kernel
theorem dX1_init_27 : decode cX1_init 27 = .ok (.newarray .int, 2) := by decide +kernel
theorem dX1_init_29 : decode cX1_init 29 = .ok (.putfield 22, 3) := by decide +kernel
theorem dX1_init_32 : decode cX1_init 32 = .ok (.aload_n 0, 1) := by decide +kernel
theorem dX1_init_33 : decode cX1_init 33 = .ok (.bipush 12, 2) := by decide +kernel
theorem dX1_init_35 : decode cX1_init 35 = .ok (.anewarray 25, 3) := by decide +kernel
theorem dX1_init_38 : decode cX1_init 38 = .ok (.putfield 27, 3) := by decide +kernel
theorem dX1_init_41 : decode cX1_init 41 = .ok (.iconst 0, 1) := by decide +kernel
theorem dX1_init_42 : decode cX1_init 42 = .ok (.istore_n 1, 1) := by decide +kernel
theorem dX1_init_43 : decode cX1_init 43 = .ok (.iload_n 1, 1) := by decide +kernel
theorem dX1_init_44 : decode cX1_init 44 = .ok (.bipush 12, 2) := by decide +kernel
theorem dX1_init_46 : decode cX1_init 46 = .ok (.if_icmp .ge 22, 3) := by decide +kernel
theorem dX1_init_49 : decode cX1_init 49 = .ok (.aload_n 0, 1) := by decide +kernel
theorem dX1_init_50 : decode cX1_init 50 = .ok (.getfield 27, 3) := by decide +kernel
theorem dX1_init_53 : decode cX1_init 53 = .ok (.iload_n 1, 1) := by decide +kernel
theorem dX1_init_54 : decode cX1_init 54 = .ok (.new 25, 3) := by decide +kernel
theorem dX1_init_57 : decode cX1_init 57 = .ok (.dup, 1) := by decide +kernel
theorem dX1_init_58 : decode cX1_init 58 = .ok (.invokespecial 31, 3) := by decide +kernel
theorem dX1_init_61 : decode cX1_init 61 = .ok (.aastore, 1) := by decide +kernel
theorem dX1_init_62 : decode cX1_init 62 = .ok (.iinc 1 1, 3) := by decide +kernel
theorem dX1_init_65 : decode cX1_init 65 = .ok (.goto (-22), 3) := by decide +kernel
theorem dX1_init_68 : decode cX1_init 68 = .ok (.return_, 1) := by decide +kernel
theorem dX3_init_0 : decode cX3_init 0 = .ok (.aload_n 0, 1) := by decide +kernel
theorem dX3_init_1 : decode cX3_init 1 = .ok (.invokespecial 1, 3) := by decide +kernel
theorem dX3_init_4 : decode cX3_init 4 = .ok (.return_, 1) := by decide +kernel
theorem dX4_abroad_0 : decode cX4_abroad 0 = .ok (.aload_n 0, 1) := by decide +kernel
theorem dX4_abroad_1 : decode cX4_abroad 1 = .ok (.iload_n 1, 1) := by decide +kernel
theorem dX4_abroad_2 : decode cX4_abroad 2 = .ok (.invokevirtual 52, 3) := by decide +kernel
theorem dX4_accountAt_0 : decode cX4_accountAt 0 = .ok (.iload_n 1, 1) := by decide +kernel
theorem dX4_accountAt_1 : decode cX4_accountAt 1 = .ok (.ifCond .lt 14, 3) := by decide +kernel
theorem dX4_accountAt_4 : decode cX4_accountAt 4 = .ok (.iload_n 1, 1) := by decide +kernel
theorem dX4_accountAt_5 : decode cX4_accountAt 5 = .ok (.aload_n 0, 1) := by decide +kernel
theorem dX4_accountAt_6 : decode cX4_accountAt 6 = .ok (.getfield 10, 3) := by decide +kernel
theorem dX4_accountAt_9 : decode cX4_accountAt 9 = .ok (.invokevirtual 32, 3) := by decide +kernel
theorem dX4_accountAt_12 : decode cX4_accountAt 12 = .ok (.if_icmp .lt 11, 3) := by decide +kernel
theorem dX4_accountAt_15 : decode cX4_accountAt 15 = .ok (.new 234, 3) := by decide +kernel
theorem dX4_accountAt_18 : decode cX4_accountAt 18 = .ok (.dup, 1) := by decide +kernel
theorem dX4_accountAt_19 : decode cX4_accountAt 19 = .ok (.invokespecial 236, 3) := by decide +kernel
theorem dX4_accountAt_22 : decode cX4_accountAt 22 = .ok (.athrow, 1) := by decide +kernel
theorem dX4_block_0 : decode cX4_block 0 = .ok (.aload_n 0, 1) := by decide +kernel
theorem dX4_block_1 : decode cX4_block 1 = .ok (.iload_n 1, 1) := by decide +kernel
theorem dX4_block_2 : decode cX4_block 2 = .ok (.invokevirtual 52, 3) := by decide +kernel
theorem dX4_bucket_0 : decode cX4_bucket 0 = .ok (.aload_n 0, 1) := by decide +kernel
theorem dX4_bucket_1 : decode cX4_bucket 1 = .ok (.iload_n 1, 1) := by decide +kernel
theorem dX4_bucket_2 : decode cX4_bucket 2 = .ok (.invokevirtual 52, 3) := by decide +kernel
theorem dX4_buy_0 : decode cX4_buy 0 = .ok (.aload_n 0, 1) := by decide +kernel
theorem dX4_buy_1 : decode cX4_buy 1 = .ok (.iload_n 1, 1) := by decide +kernel
theorem dX4_buy_2 : decode cX4_buy 2 = .ok (.invokevirtual 52, 3) := by decide +kernel
theorem dX4_buyOn_0 : decode cX4_buyOn 0 = .ok (.aload_n 0, 1) := by decide +kernel
theorem dX4_buyOn_1 : decode cX4_buyOn 1 = .ok (.iload_n 1, 1) := by decide +kernel
theorem dX4_buyOn_2 : decode cX4_buyOn 2 = .ok (.invokevirtual 52, 3) := by decide +kernel
theorem dX4_credit_0 : decode cX4_credit 0 = .ok (.aload_n 0, 1) := by decide +kernel
theorem dX4_credit_1 : decode cX4_credit 1 = .ok (.aload_n 0, 1) := by decide +kernel
theorem dX4_credit_2 : decode cX4_credit 2 = .ok (.iload_n 1, 1) := by decide +kernel
theorem dX4_credit_3 : decode cX4_credit 3 = .ok (.invokevirtual 52, 3) := by decide +kernel
theorem dX4_difference_0 : decode cX4_difference 0 = .ok (.aload_n 0, 1) := by decide +kernel
theorem dX4_difference_1 : decode cX4_difference 1 = .ok (.iload_n 1, 1) := by decide +kernel
theorem dX4_difference_2 : decode cX4_difference 2 = .ok (.invokevirtual 52, 3) := by decide +kernel
theorem dX4_dispute_0 : decode cX4_dispute 0 = .ok (.aload_n 0, 1) := by decide +kernel
theorem dX4_dispute_1 : decode cX4_dispute 1 = .ok (.iload_n 1, 1) := by decide +kernel
theorem dX4_dispute_2 : decode cX4_dispute 2 = .ok (.invokevirtual 52, 3) := by decide +kernel
theorem dX4_events_0 : decode cX4_events 0 = .ok (.aload_n 0, 1) := by decide +kernel
theorem dX4_events_1 : decode cX4_events 1 = .ok (.iload_n 1, 1) := by decide +kernel
theorem dX4_events_2 : decode cX4_events 2 = .ok (.invokevirtual 52, 3) := by decide +kernel
theorem dX4_hadGrace_0 : decode cX4_hadGrace 0 = .ok (.aload_n 0, 1) := by decide +kernel
theorem dX4_hadGrace_1 : decode cX4_hadGrace 1 = .ok (.aload_n 0, 1) := by decide +kernel
theorem dX4_hadGrace_2 : decode cX4_hadGrace 2 = .ok (.iload_n 1, 1) := by decide +kernel
theorem dX4_hadGrace_3 : decode cX4_hadGrace 3 = .ok (.invokevirtual 52, 3) := by decide +kernel
theorem dX4_init_0 : decode cX4_init 0 = .ok (.aload_n 0, 1) := by decide +kernel
theorem dX4_init_1 : decode cX4_init 1 = .ok (.invokespecial 1, 3) := by decide +kernel
theorem dX4_init_4 : decode cX4_init 4 = .ok (.aload_n 0, 1) := by decide +kernel
theorem dX4_init_5 : decode cX4_init 5 = .ok (.new 7, 3) := by decide +kernel
theorem dX4_init_8 : decode cX4_init 8 = .ok (.dup, 1) := by decide +kernel
theorem dX4_init_9 : decode cX4_init 9 = .ok (.invokespecial 9, 3) := by decide +kernel
theorem dX4_init_12 : decode cX4_init 12 = .ok (.putfield 10, 3) := by decide +kernel
theorem dX4_init_15 : decode cX4_init 15 = .ok (.aload_n 0, 1) := by decide +kernel
theorem dX4_init_16 : decode cX4_init 16 = .ok (.iconst 4, 1) := by decide +kernel
theorem dX4_init_17 : decode cX4_init 17 = .ok (.newarray .int, 2) := by decide +kernel
theorem dX4_init_19 : decode cX4_init 19 = .ok (.dup, 1) := by decide +kernel
theorem dX4_init_20 : decode cX4_init 20 = .ok (.iconst 0, 1) := by decide +kernel
theorem dX4_init_21 : decode cX4_init 21 = .ok (.sipush 1000, 3) := by decide +kernel
theorem dX4_init_24 : decode cX4_init 24 = .ok (.iastore, 1) := by decide +kernel
theorem dX4_init_25 : decode cX4_init 25 = .ok (.dup, 1) := by decide +kernel
theorem dX4_init_26 : decode cX4_init 26 = .ok (.iconst 1, 1) := by decide +kernel
theorem dX4_init_27 : decode cX4_init 27 = .ok (.sipush 1000, 3) := by decide +kernel
theorem dX4_init_30 : decode cX4_init 30 = .ok (.iastore, 1) := by decide +kernel
theorem dX4_init_31 : decode cX4_init 31 = .ok (.dup, 1) := by decide +kernel
theorem dX4_init_32 : decode cX4_init 32 = .ok (.iconst 2, 1) := by decide +kernel
theorem dX4_init_33 : decode cX4_init 33 = .ok (.sipush 1000, 3) := by decide +kernel
theorem dX4_init_36 : decode cX4_init 36 = .ok (.iastore, 1) := by decide +kernel
theorem dX4_init_37 : decode cX4_init 37 = .ok (.dup, 1) := by decide +kernel
theorem dX4_init_38 : decode cX4_init 38 = .ok (.iconst 3, 1) := by decide +kernel
theorem dX4_init_39 : decode cX4_init 39 = .ok (.sipush 1000, 3) := by decide +kernel
theorem dX4_init_42 : decode cX4_init 42 = .ok (.iastore, 1) := by decide +kernel
theorem dX4_init_43 : decode cX4_init 43 = .ok (.putfield 16, 3) := by decide +kernel
theorem dX4_init_46 : decode cX4_init 46 = .ok (.aload_n 0, 1) := by decide +kernel
theorem dX4_init_47 : decode cX4_init 47 = .ok (.new 20, 3) := by decide +kernel
theorem dX4_init_50 : decode cX4_init 50 = .ok (.dup, 1) := by decide +kernel
theorem dX4_init_51 : decode cX4_init 51 = .ok (.invokespecial 22, 3) := by decide +kernel
theorem dX4_init_54 : decode cX4_init 54 = .ok (.putfield 23, 3) := by decide +kernel
theorem dX4_init_57 : decode cX4_init 57 = .ok (.return_, 1) := by decide +kernel
theorem dX4_interest_0 : decode cX4_interest 0 = .ok (.aload_n 0, 1) := by decide +kernel
theorem dX4_interest_1 : decode cX4_interest 1 = .ok (.aload_n 0, 1) := by decide +kernel
theorem dX4_interest_2 : decode cX4_interest 2 = .ok (.iload_n 1, 1) := by decide +kernel
theorem dX4_interest_3 : decode cX4_interest 3 = .ok (.invokevirtual 52, 3) := by decide +kernel
theorem dX4_isBack_0 : decode cX4_isBack 0 = .ok (.aload_n 0, 1) := by decide +kernel
theorem dX4_isBack_1 : decode cX4_isBack 1 = .ok (.iload_n 1, 1) := by decide +kernel
theorem dX4_isBack_2 : decode cX4_isBack 2 = .ok (.invokevirtual 52, 3) := by decide +kernel
theorem dX4_isOff_0 : decode cX4_isOff 0 = .ok (.aload_n 0, 1) := by decide +kernel
theorem dX4_isOff_1 : decode cX4_isOff 1 = .ok (.aload_n 0, 1) := by decide +kernel
theorem dX4_isOff_2 : decode cX4_isOff 2 = .ok (.iload_n 1, 1) := by decide +kernel
theorem dX4_isOff_3 : decode cX4_isOff 3 = .ok (.invokevirtual 52, 3) := by decide +kernel
theorem dX4_kindOf_0 : decode cX4_kindOf 0 = .ok (.aload_n 0, 1) := by decide +kernel
theorem dX4_kindOf_1 : decode cX4_kindOf 1 = .ok (.iload_n 1, 1) := by decide +kernel
theorem dX4_kindOf_2 : decode cX4_kindOf 2 = .ok (.invokevirtual 52, 3) := by decide +kernel
theorem dX4_least_0 : decode cX4_least 0 = .ok (.aload_n 0, 1) := by decide +kernel
theorem dX4_least_1 : decode cX4_least 1 = .ok (.aload_n 0, 1) := by decide +kernel
theorem dX4_least_2 : decode cX4_least 2 = .ok (.iload_n 1, 1) := by decide +kernel
theorem dX4_least_3 : decode cX4_least 3 = .ok (.invokevirtual 52, 3) := by decide +kernel
theorem dX4_missed_0 : decode cX4_missed 0 = .ok (.aload_n 0, 1) := by decide +kernel
theorem dX4_missed_1 : decode cX4_missed 1 = .ok (.aload_n 0, 1) := by decide +kernel
theorem dX4_missed_2 : decode cX4_missed 2 = .ok (.iload_n 1, 1) := by decide +kernel
theorem dX4_missed_3 : decode cX4_missed 3 = .ok (.invokevirtual 52, 3) := by decide +kernel
theorem dX4_missing_0 : decode cX4_missing 0 = .ok (.aload_n 0, 1) := by decide +kernel
theorem dX4_missing_1 : decode cX4_missing 1 = .ok (.aload_n 0, 1) := by decide +kernel
theorem dX4_missing_2 : decode cX4_missing 2 = .ok (.iload_n 1, 1) := by decide +kernel
theorem dX4_missing_3 : decode cX4_missing 3 = .ok (.invokevirtual 52, 3) := by decide +kernel
theorem dX4_owed_0 : decode cX4_owed 0 = .ok (.aload_n 0, 1) := by decide +kernel
theorem dX4_owed_1 : decode cX4_owed 1 = .ok (.aload_n 0, 1) := by decide +kernel
theorem dX4_owed_2 : decode cX4_owed 2 = .ok (.iload_n 1, 1) := by decide +kernel
theorem dX4_owed_3 : decode cX4_owed 3 = .ok (.invokevirtual 52, 3) := by decide +kernel
theorem dX4_paid_0 : decode cX4_paid 0 = .ok (.aload_n 0, 1) := by decide +kernel
theorem dX4_paid_1 : decode cX4_paid 1 = .ok (.aload_n 0, 1) := by decide +kernel
theorem dX4_paid_2 : decode cX4_paid 2 = .ok (.iload_n 1, 1) := by decide +kernel
theorem dX4_paid_3 : decode cX4_paid 3 = .ok (.invokevirtual 52, 3) := by decide +kernel
theorem dX4_pay_0 : decode cX4_pay 0 = .ok (.aload_n 0, 1) := by decide +kernel
theorem dX4_pay_1 : decode cX4_pay 1 = .ok (.iload_n 1, 1) := by decide +kernel
theorem dX4_pay_2 : decode cX4_pay 2 = .ok (.invokevirtual 52, 3) := by decide +kernel
theorem dX4_plan_0 : decode cX4_plan 0 = .ok (.aload_n 0, 1) := by decide +kernel
theorem dX4_plan_1 : decode cX4_plan 1 = .ok (.iload_n 1, 1) := by decide +kernel
theorem dX4_plan_2 : decode cX4_plan 2 = .ok (.invokevirtual 52, 3) := by decide +kernel
theorem dX4_points_0 : decode cX4_points 0 = .ok (.aload_n 0, 1) := by decide +kernel
theorem dX4_points_1 : decode cX4_points 1 = .ok (.iload_n 1, 1) := by decide +kernel
theorem dX4_points_2 : decode cX4_points 2 = .ok (.invokevirtual 52, 3) := by decide +kernel
theorem dX4_promote_0 : decode cX4_promote 0 = .ok (.aload_n 0, 1) := by decide +kernel
theorem dX4_promote_1 : decode cX4_promote 1 = .ok (.iload_n 1, 1) := by decide +kernel
theorem dX4_promote_2 : decode cX4_promote 2 = .ok (.invokevirtual 52, 3) := by decide +kernel
theorem dX4_reasons_0 : decode cX4_reasons 0 = .ok (.aload_n 0, 1) := by decide +kernel
theorem dX4_reasons_1 : decode cX4_reasons 1 = .ok (.iload_n 1, 1) := by decide +kernel
theorem dX4_reasons_2 : decode cX4_reasons 2 = .ok (.invokevirtual 52, 3) := by decide +kernel
theorem dX4_redeem_0 : decode cX4_redeem 0 = .ok (.aload_n 0, 1) := by decide +kernel
theorem dX4_redeem_1 : decode cX4_redeem 1 = .ok (.iload_n 1, 1) := by decide +kernel
theorem dX4_redeem_2 : decode cX4_redeem 2 = .ok (.invokevirtual 52, 3) := by decide +kernel
theorem dX4_returns_0 : decode cX4_returns 0 = .ok (.aload_n 0, 1) := by decide +kernel
theorem dX4_returns_1 : decode cX4_returns 1 = .ok (.iload_n 1, 1) := by decide +kernel
theorem dX4_returns_2 : decode cX4_returns 2 = .ok (.invokevirtual 52, 3) := by decide +kernel
theorem dX4_reverse_0 : decode cX4_reverse 0 = .ok (.aload_n 0, 1) := by decide +kernel
theorem dX4_reverse_1 : decode cX4_reverse 1 = .ok (.iload_n 1, 1) := by decide +kernel
theorem dX4_reverse_2 : decode cX4_reverse 2 = .ok (.invokevirtual 52, 3) := by decide +kernel
theorem dX4_setLimit_0 : decode cX4_setLimit 0 = .ok (.aload_n 0, 1) := by decide +kernel
theorem dX4_setLimit_1 : decode cX4_setLimit 1 = .ok (.iload_n 1, 1) := by decide +kernel
theorem dX4_setLimit_2 : decode cX4_setLimit 2 = .ok (.invokevirtual 52, 3) := by decide +kernel
theorem dX4_setRate_0 : decode cX4_setRate 0 = .ok (.aload_n 0, 1) := by decide +kernel
theorem dX4_setRate_1 : decode cX4_setRate 1 = .ok (.iload_n 1, 1) := by decide +kernel
theorem dX4_setRate_2 : decode cX4_setRate 2 = .ok (.invokevirtual 52, 3) := by decide +kernel
theorem dX4_settle_0 : decode cX4_settle 0 = .ok (.aload_n 0, 1) := by decide +kernel
theorem dX4_settle_1 : decode cX4_settle 1 = .ok (.iload_n 1, 1) := by decide +kernel
theorem dX4_settle_2 : decode cX4_settle 2 = .ok (.invokevirtual 52, 3) := by decide +kernel
theorem dX4_statement_0 : decode cX4_statement 0 = .ok (.aload_n 0, 1) := by decide +kernel
theorem dX4_statement_1 : decode cX4_statement 1 = .ok (.aload_n 0, 1) := by decide +kernel
theorem dX4_statement_2 : decode cX4_statement 2 = .ok (.iload_n 1, 1) := by decide +kernel
theorem dX4_statement_3 : decode cX4_statement 3 = .ok (.invokevirtual 52, 3) := by decide +kernel
theorem dX4_sum_0 : decode cX4_sum 0 = .ok (.aload_n 0, 1) := by decide +kernel
theorem dX4_sum_1 : decode cX4_sum 1 = .ok (.iload_n 1, 1) := by decide +kernel
theorem dX4_sum_2 : decode cX4_sum 2 = .ok (.invokevirtual 52, 3) := by decide +kernel
theorem dX4_told_0 : decode cX4_told 0 = .ok (.aload_n 0, 1) := by decide +kernel
theorem dX4_told_1 : decode cX4_told 1 = .ok (.aload_n 0, 1) := by decide +kernel
theorem dX4_told_2 : decode cX4_told 2 = .ok (.iload_n 1, 1) := by decide +kernel
theorem dX4_told_3 : decode cX4_told 3 = .ok (.invokevirtual 52, 3) := by decide +kernel
theorem dX4_why_0 : decode cX4_why 0 = .ok (.aload_n 0, 1) := by decide +kernel
theorem dX4_why_1 : decode cX4_why 1 = .ok (.iload_n 1, 1) := by decide +kernel
theorem dX4_why_2 : decode cX4_why 2 = .ok (.invokevirtual 52, 3) := by decide +kernel
theorem dX8_abroad_0 : decode cX8_abroad 0 = .ok (.aload_n 0, 1) := by decide +kernel
theorem dX8_abroad_1 : decode cX8_abroad 1 = .ok (.aload_n 0, 1) := by decide +kernel
theorem dX8_abroad_2 : decode cX8_abroad 2 = .ok (.iload_n 1, 1) := by decide +kernel
theorem dX8_abroad_3 : decode cX8_abroad 3 = .ok (.invokevirtual 34, 3) := by decide +kernel
theorem dX8_abroad_6 : decode cX8_abroad 6 = .ok (.iconst 1, 1) := by decide +kernel
theorem dX8_abroad_7 : decode cX8_abroad 7 = .ok (.invokevirtual 70, 3) := by decide +kernel
theorem dX8_abroad_10 : decode cX8_abroad 10 = .ok (.ifCond .ne 36, 3) := by decide +kernel
theorem dX8_abroad_46 : decode cX8_abroad 46 = .ok (.iconst 0, 1) := by decide +kernel
theorem dX8_abroad_47 : decode cX8_abroad 47 = .ok (.ireturn, 1) := by decide +kernel
theorem dX8_block_0 : decode cX8_block 0 = .ok (.aload_n 0, 1) := by decide +kernel
theorem dX8_block_1 : decode cX8_block 1 = .ok (.aload_n 0, 1) := by decide +kernel
theorem dX8_block_2 : decode cX8_block 2 = .ok (.iload_n 1, 1) := by decide +kernel
theorem dX8_block_3 : decode cX8_block 3 = .ok (.invokevirtual 34, 3) := by decide +kernel
theorem dX8_block_6 : decode cX8_block 6 = .ok (.iconst 1, 1) := by decide +kernel
theorem dX8_block_7 : decode cX8_block 7 = .ok (.invokevirtual 70, 3) := by decide +kernel
theorem dX8_block_10 : decode cX8_block 10 = .ok (.ifCond .eq 5, 3) := by decide +kernel
theorem dX8_block_13 : decode cX8_block 13 = .ok (.iconst 0, 1) := by decide +kernel
theorem dX8_block_14 : decode cX8_block 14 = .ok (.ireturn, 1) := by decide +kernel
theorem dX8_bucket_0 : decode cX8_bucket 0 = .ok (.aload_n 0, 1) := by decide +kernel
theorem dX8_bucket_1 : decode cX8_bucket 1 = .ok (.aload_n 0, 1) := by decide +kernel
theorem dX8_bucket_2 : decode cX8_bucket 2 = .ok (.iload_n 1, 1) := by decide +kernel
theorem dX8_bucket_3 : decode cX8_bucket 3 = .ok (.invokevirtual 34, 3) := by decide +kernel
theorem dX8_bucket_6 : decode cX8_bucket 6 = .ok (.iconst 1, 1) := by decide +kernel
theorem dX8_bucket_7 : decode cX8_bucket 7 = .ok (.invokevirtual 70, 3) := by decide +kernel
theorem dX8_bucket_10 : decode cX8_bucket 10 = .ok (.ifCond .ne 15, 3) := by decide +kernel
theorem dX8_bucket_25 : decode cX8_bucket 25 = .ok (.lconst 0, 1) := by decide +kernel
theorem dX8_bucket_26 : decode cX8_bucket 26 = .ok (.goto 18, 3) := by decide +kernel
theorem dX8_bucket_44 : decode cX8_bucket 44 = .ok (.lreturn, 1) := by decide +kernel
theorem dX8_buy_0 : decode cX8_buy 0 = .ok (.aload_n 0, 1) := by decide +kernel
theorem dX8_buy_1 : decode cX8_buy 1 = .ok (.aload_n 0, 1) := by decide +kernel
theorem dX8_buy_2 : decode cX8_buy 2 = .ok (.iload_n 1, 1) := by decide +kernel
theorem dX8_buy_3 : decode cX8_buy 3 = .ok (.invokevirtual 34, 3) := by decide +kernel
theorem dX8_buy_6 : decode cX8_buy 6 = .ok (.iconst 1, 1) := by decide +kernel
theorem dX8_buy_7 : decode cX8_buy 7 = .ok (.invokevirtual 70, 3) := by decide +kernel
theorem dX8_buy_10 : decode cX8_buy 10 = .ok (.ifCond .ne 73, 3) := by decide +kernel
theorem dX8_buy_83 : decode cX8_buy 83 = .ok (.iconst 0, 1) := by decide +kernel
theorem dX8_buy_84 : decode cX8_buy 84 = .ok (.ireturn, 1) := by decide +kernel
theorem dX8_buyOn_0 : decode cX8_buyOn 0 = .ok (.aload_n 0, 1) := by decide +kernel
theorem dX8_buyOn_1 : decode cX8_buyOn 1 = .ok (.aload_n 0, 1) := by decide +kernel
theorem dX8_buyOn_2 : decode cX8_buyOn 2 = .ok (.iload_n 1, 1) := by decide +kernel
theorem dX8_buyOn_3 : decode cX8_buyOn 3 = .ok (.invokevirtual 34, 3) := by decide +kernel
theorem dX8_buyOn_6 : decode cX8_buyOn 6 = .ok (.iconst 1, 1) := by decide +kernel
theorem dX8_buyOn_7 : decode cX8_buyOn 7 = .ok (.invokevirtual 70, 3) := by decide +kernel
theorem dX8_buyOn_10 : decode cX8_buyOn 10 = .ok (.ifCond .ne 59, 3) := by decide +kernel
theorem dX8_buyOn_69 : decode cX8_buyOn 69 = .ok (.iconst 0, 1) := by decide +kernel
theorem dX8_buyOn_70 : decode cX8_buyOn 70 = .ok (.ireturn, 1) := by decide +kernel
theorem dX8_credit_0 : decode cX8_credit 0 = .ok (.aload_n 0, 1) := by decide +kernel
theorem dX8_credit_1 : decode cX8_credit 1 = .ok (.aload_n 0, 1) := by decide +kernel
theorem dX8_credit_2 : decode cX8_credit 2 = .ok (.iload_n 1, 1) := by decide +kernel
theorem dX8_credit_3 : decode cX8_credit 3 = .ok (.invokevirtual 34, 3) := by decide +kernel
theorem dX8_credit_6 : decode cX8_credit 6 = .ok (.iconst 1, 1) := by decide +kernel
theorem dX8_credit_7 : decode cX8_credit 7 = .ok (.invokevirtual 70, 3) := by decide +kernel
theorem dX8_credit_10 : decode cX8_credit 10 = .ok (.ifCond .eq 7, 3) := by decide +kernel
theorem dX8_credit_13 : decode cX8_credit 13 = .ok (.lconst 0, 1) := by decide +kernel
theorem dX8_credit_14 : decode cX8_credit 14 = .ok (.goto 11, 3) := by decide +kernel
theorem dX8_credit_25 : decode cX8_credit 25 = .ok (.lreturn, 1) := by decide +kernel
theorem dX8_difference_0 : decode cX8_difference 0 = .ok (.aload_n 0, 1) := by decide +kernel
theorem dX8_difference_1 : decode cX8_difference 1 = .ok (.aload_n 0, 1) := by decide +kernel
theorem dX8_difference_2 : decode cX8_difference 2 = .ok (.iload_n 1, 1) := by decide +kernel
theorem dX8_difference_3 : decode cX8_difference 3 = .ok (.invokevirtual 34, 3) := by decide +kernel
theorem dX8_difference_6 : decode cX8_difference 6 = .ok (.iconst 1, 1) := by decide +kernel
theorem dX8_difference_7 : decode cX8_difference 7 = .ok (.invokevirtual 70, 3) := by decide +kernel
theorem dX8_difference_10 : decode cX8_difference 10 = .ok (.ifCond .ne 17, 3) := by decide +kernel
theorem dX8_difference_27 : decode cX8_difference 27 = .ok (.lconst 0, 1) := by decide +kernel
theorem dX8_difference_28 : decode cX8_difference 28 = .ok (.goto 35, 3) := by decide +kernel
theorem dX8_difference_63 : decode cX8_difference 63 = .ok (.lreturn, 1) := by decide +kernel
theorem dX8_dispute_0 : decode cX8_dispute 0 = .ok (.aload_n 0, 1) := by decide +kernel
theorem dX8_dispute_1 : decode cX8_dispute 1 = .ok (.aload_n 0, 1) := by decide +kernel
theorem dX8_dispute_2 : decode cX8_dispute 2 = .ok (.iload_n 1, 1) := by decide +kernel
theorem dX8_dispute_3 : decode cX8_dispute 3 = .ok (.iload_n 2, 1) := by decide +kernel
theorem dX8_dispute_4 : decode cX8_dispute 4 = .ok (.invokevirtual 134, 3) := by decide +kernel
theorem dX8_dispute_7 : decode cX8_dispute 7 = .ok (.iconst 1, 1) := by decide +kernel
theorem dX8_dispute_8 : decode cX8_dispute 8 = .ok (.invokevirtual 70, 3) := by decide +kernel
theorem dX8_dispute_11 : decode cX8_dispute 11 = .ok (.ifCond .eq 5, 3) := by decide +kernel
theorem dX8_dispute_14 : decode cX8_dispute 14 = .ok (.iconst 0, 1) := by decide +kernel
theorem dX8_dispute_15 : decode cX8_dispute 15 = .ok (.ireturn, 1) := by decide +kernel
theorem dX8_events_0 : decode cX8_events 0 = .ok (.aload_n 0, 1) := by decide +kernel
theorem dX8_events_1 : decode cX8_events 1 = .ok (.aload_n 0, 1) := by decide +kernel
theorem dX8_events_2 : decode cX8_events 2 = .ok (.iload_n 1, 1) := by decide +kernel
theorem dX8_events_3 : decode cX8_events 3 = .ok (.invokevirtual 34, 3) := by decide +kernel
theorem dX8_events_6 : decode cX8_events 6 = .ok (.iconst 1, 1) := by decide +kernel
theorem dX8_events_7 : decode cX8_events 7 = .ok (.invokevirtual 70, 3) := by decide +kernel
theorem dX8_events_10 : decode cX8_events 10 = .ok (.ifCond .eq 7, 3) := by decide +kernel
theorem dX8_events_13 : decode cX8_events 13 = .ok (.iconst 0, 1) := by decide +kernel
theorem dX8_events_14 : decode cX8_events 14 = .ok (.goto 24, 3) := by decide +kernel
theorem dX8_events_38 : decode cX8_events 38 = .ok (.ireturn, 1) := by decide +kernel
theorem dX8_hadGrace_0 : decode cX8_hadGrace 0 = .ok (.aload_n 0, 1) := by decide +kernel
theorem dX8_hadGrace_1 : decode cX8_hadGrace 1 = .ok (.aload_n 0, 1) := by decide +kernel
theorem dX8_hadGrace_2 : decode cX8_hadGrace 2 = .ok (.iload_n 1, 1) := by decide +kernel
theorem dX8_hadGrace_3 : decode cX8_hadGrace 3 = .ok (.invokevirtual 34, 3) := by decide +kernel
theorem dX8_hadGrace_6 : decode cX8_hadGrace 6 = .ok (.iconst 1, 1) := by decide +kernel
theorem dX8_hadGrace_7 : decode cX8_hadGrace 7 = .ok (.invokevirtual 70, 3) := by decide +kernel
theorem dX8_hadGrace_10 : decode cX8_hadGrace 10 = .ok (.ifCond .ne 33, 3) := by decide +kernel
theorem dX8_hadGrace_43 : decode cX8_hadGrace 43 = .ok (.iconst 0, 1) := by decide +kernel
theorem dX8_hadGrace_44 : decode cX8_hadGrace 44 = .ok (.ireturn, 1) := by decide +kernel
theorem dX8_init_0 : decode cX8_init 0 = .ok (.aload_n 0, 1) := by decide +kernel
theorem dX8_init_1 : decode cX8_init 1 = .ok (.invokespecial 1, 3) := by decide +kernel
theorem dX8_init_4 : decode cX8_init 4 = .ok (.aload_n 0, 1) := by decide +kernel
theorem dX8_init_5 : decode cX8_init 5 = .ok (.new 7, 3) := by decide +kernel
theorem dX8_init_8 : decode cX8_init 8 = .ok (.dup, 1) := by decide +kernel
theorem dX8_init_9 : decode cX8_init 9 = .ok (.invokespecial 9, 3) := by decide +kernel
theorem dX8_init_12 : decode cX8_init 12 = .ok (.putfield 10, 3) := by decide +kernel
theorem dX8_init_15 : decode cX8_init 15 = .ok (.aload_n 0, 1) := by decide +kernel
theorem dX8_init_16 : decode cX8_init 16 = .ok (.iconst 4, 1) := by decide +kernel
theorem dX8_init_17 : decode cX8_init 17 = .ok (.newarray .int, 2) := by decide +kernel
theorem dX8_init_19 : decode cX8_init 19 = .ok (.dup, 1) := by decide +kernel
theorem dX8_init_20 : decode cX8_init 20 = .ok (.iconst 0, 1) := by decide +kernel
theorem dX8_init_21 : decode cX8_init 21 = .ok (.sipush 1000, 3) := by decide +kernel
theorem dX8_init_24 : decode cX8_init 24 = .ok (.iastore, 1) := by decide +kernel
theorem dX8_init_25 : decode cX8_init 25 = .ok (.dup, 1) := by decide +kernel
theorem dX8_init_26 : decode cX8_init 26 = .ok (.iconst 1, 1) := by decide +kernel
theorem dX8_init_27 : decode cX8_init 27 = .ok (.sipush 1000, 3) := by decide +kernel
theorem dX8_init_30 : decode cX8_init 30 = .ok (.iastore, 1) := by decide +kernel
theorem dX8_init_31 : decode cX8_init 31 = .ok (.dup, 1) := by decide +kernel
theorem dX8_init_32 : decode cX8_init 32 = .ok (.iconst 2, 1) := by decide +kernel
theorem dX8_init_33 : decode cX8_init 33 = .ok (.sipush 1000, 3) := by decide +kernel
theorem dX8_init_36 : decode cX8_init 36 = .ok (.iastore, 1) := by decide +kernel
theorem dX8_init_37 : decode cX8_init 37 = .ok (.dup, 1) := by decide +kernel
theorem dX8_init_38 : decode cX8_init 38 = .ok (.iconst 3, 1) := by decide +kernel
theorem dX8_init_39 : decode cX8_init 39 = .ok (.sipush 1000, 3) := by decide +kernel
theorem dX8_init_42 : decode cX8_init 42 = .ok (.iastore, 1) := by decide +kernel
theorem dX8_init_43 : decode cX8_init 43 = .ok (.putfield 16, 3) := by decide +kernel
theorem dX8_init_46 : decode cX8_init 46 = .ok (.return_, 1) := by decide +kernel
theorem dX8_interest_0 : decode cX8_interest 0 = .ok (.aload_n 0, 1) := by decide +kernel
theorem dX8_interest_1 : decode cX8_interest 1 = .ok (.aload_n 0, 1) := by decide +kernel
theorem dX8_interest_2 : decode cX8_interest 2 = .ok (.iload_n 1, 1) := by decide +kernel
theorem dX8_interest_3 : decode cX8_interest 3 = .ok (.invokevirtual 34, 3) := by decide +kernel
theorem dX8_interest_6 : decode cX8_interest 6 = .ok (.iconst 1, 1) := by decide +kernel
theorem dX8_interest_7 : decode cX8_interest 7 = .ok (.invokevirtual 70, 3) := by decide +kernel
theorem dX8_interest_10 : decode cX8_interest 10 = .ok (.ifCond .ne 16, 3) := by decide +kernel
theorem dX8_interest_26 : decode cX8_interest 26 = .ok (.lconst 0, 1) := by decide +kernel
theorem dX8_interest_27 : decode cX8_interest 27 = .ok (.goto 13, 3) := by decide +kernel
theorem dX8_interest_40 : decode cX8_interest 40 = .ok (.lreturn, 1) := by decide +kernel
theorem dX8_isAccount_0 : decode cX8_isAccount 0 = .ok (.iload_n 1, 1) := by decide +kernel
theorem dX8_isAccount_1 : decode cX8_isAccount 1 = .ok (.iconst 0, 1) := by decide +kernel
theorem dX8_isAccount_2 : decode cX8_isAccount 2 = .ok (.aload_n 0, 1) := by decide +kernel
theorem dX8_isAccount_3 : decode cX8_isAccount 3 = .ok (.getfield 10, 3) := by decide +kernel
theorem dX8_isAccount_6 : decode cX8_isAccount 6 = .ok (.invokeinterface 24 1, 5) := by decide +kernel
theorem dX8_isAccount_11 : decode cX8_isAccount 11 = .ok (.iconst 1, 1) := by decide +kernel
theorem dX8_isAccount_12 : decode cX8_isAccount 12 = .ok (.isub, 1) := by decide +kernel
theorem dX8_isAccount_13 : decode cX8_isAccount 13 = .ok (.invokestatic 30, 3) := by decide +kernel
theorem dX8_isAccount_16 : decode cX8_isAccount 16 = .ok (.ireturn, 1) := by decide +kernel
theorem dX8_isBack_0 : decode cX8_isBack 0 = .ok (.aload_n 0, 1) := by decide +kernel
theorem dX8_isBack_1 : decode cX8_isBack 1 = .ok (.aload_n 0, 1) := by decide +kernel
theorem dX8_isBack_2 : decode cX8_isBack 2 = .ok (.iload_n 1, 1) := by decide +kernel
theorem dX8_isBack_3 : decode cX8_isBack 3 = .ok (.iload_n 2, 1) := by decide +kernel
theorem dX8_isBack_4 : decode cX8_isBack 4 = .ok (.invokevirtual 134, 3) := by decide +kernel
theorem dX8_isBack_7 : decode cX8_isBack 7 = .ok (.iconst 1, 1) := by decide +kernel
theorem dX8_isBack_8 : decode cX8_isBack 8 = .ok (.invokevirtual 70, 3) := by decide +kernel
theorem dX8_isBack_11 : decode cX8_isBack 11 = .ok (.ifCond .ne 19, 3) := by decide +kernel
theorem dX8_isBack_30 : decode cX8_isBack 30 = .ok (.iconst 0, 1) := by decide +kernel
theorem dX8_isBack_31 : decode cX8_isBack 31 = .ok (.ireturn, 1) := by decide +kernel
theorem dX8_isEvent_0 : decode cX8_isEvent 0 = .ok (.aload_n 0, 1) := by decide +kernel
theorem dX8_isEvent_1 : decode cX8_isEvent 1 = .ok (.iload_n 1, 1) := by decide +kernel
theorem dX8_isEvent_2 : decode cX8_isEvent 2 = .ok (.invokevirtual 34, 3) := by decide +kernel
theorem dX8_isEvent_5 : decode cX8_isEvent 5 = .ok (.ifCond .eq 38, 3) := by decide +kernel
theorem dX8_isEvent_43 : decode cX8_isEvent 43 = .ok (.iconst 0, 1) := by decide +kernel
theorem dX8_isEvent_44 : decode cX8_isEvent 44 = .ok (.ireturn, 1) := by decide +kernel
theorem dX8_isIn_0 : decode cX8_isIn 0 = .ok (.iload_n 0, 1) := by decide +kernel
theorem dX8_isIn_1 : decode cX8_isIn 1 = .ok (.iload_n 1, 1) := by decide +kernel
theorem dX8_isIn_2 : decode cX8_isIn 2 = .ok (.if_icmp .lt 12, 3) := by decide +kernel
theorem dX8_isIn_5 : decode cX8_isIn 5 = .ok (.iload_n 0, 1) := by decide +kernel
theorem dX8_isIn_6 : decode cX8_isIn 6 = .ok (.iload_n 2, 1) := by decide +kernel
theorem dX8_isIn_7 : decode cX8_isIn 7 = .ok (.if_icmp .gt 7, 3) := by decide +kernel
theorem dX8_isIn_10 : decode cX8_isIn 10 = .ok (.iconst 1, 1) := by decide +kernel
theorem dX8_isIn_11 : decode cX8_isIn 11 = .ok (.goto 4, 3) := by decide +kernel
theorem dX8_isIn_14 : decode cX8_isIn 14 = .ok (.iconst 0, 1) := by decide +kernel
theorem dX8_isIn_15 : decode cX8_isIn 15 = .ok (.ireturn, 1) := by decide +kernel
theorem dX8_isOff_0 : decode cX8_isOff 0 = .ok (.aload_n 0, 1) := by decide +kernel
theorem dX8_isOff_1 : decode cX8_isOff 1 = .ok (.aload_n 0, 1) := by decide +kernel
theorem dX8_isOff_2 : decode cX8_isOff 2 = .ok (.iload_n 1, 1) := by decide +kernel
theorem dX8_isOff_3 : decode cX8_isOff 3 = .ok (.invokevirtual 34, 3) := by decide +kernel
theorem dX8_isOff_6 : decode cX8_isOff 6 = .ok (.iconst 1, 1) := by decide +kernel
theorem dX8_isOff_7 : decode cX8_isOff 7 = .ok (.invokevirtual 70, 3) := by decide +kernel
theorem dX8_isOff_10 : decode cX8_isOff 10 = .ok (.ifCond .ne 18, 3) := by decide +kernel
theorem dX8_isOff_28 : decode cX8_isOff 28 = .ok (.iconst 0, 1) := by decide +kernel
theorem dX8_isOff_29 : decode cX8_isOff 29 = .ok (.ireturn, 1) := by decide +kernel
theorem dX8_kindOf_0 : decode cX8_kindOf 0 = .ok (.aload_n 0, 1) := by decide +kernel
theorem dX8_kindOf_1 : decode cX8_kindOf 1 = .ok (.aload_n 0, 1) := by decide +kernel
theorem dX8_kindOf_2 : decode cX8_kindOf 2 = .ok (.iload_n 1, 1) := by decide +kernel
theorem dX8_kindOf_3 : decode cX8_kindOf 3 = .ok (.iload_n 2, 1) := by decide +kernel
theorem dX8_kindOf_4 : decode cX8_kindOf 4 = .ok (.invokevirtual 134, 3) := by decide +kernel
theorem dX8_kindOf_7 : decode cX8_kindOf 7 = .ok (.iconst 1, 1) := by decide +kernel
theorem dX8_kindOf_8 : decode cX8_kindOf 8 = .ok (.invokevirtual 70, 3) := by decide +kernel
theorem dX8_kindOf_11 : decode cX8_kindOf 11 = .ok (.ifCond .eq 8, 3) := by decide +kernel
theorem dX8_kindOf_14 : decode cX8_kindOf 14 = .ok (.bipush 45, 2) := by decide +kernel
theorem dX8_kindOf_16 : decode cX8_kindOf 16 = .ok (.goto 12, 3) := by decide +kernel
theorem dX8_kindOf_28 : decode cX8_kindOf 28 = .ok (.ireturn, 1) := by decide +kernel
theorem dX8_least_0 : decode cX8_least 0 = .ok (.aload_n 0, 1) := by decide +kernel
theorem dX8_least_1 : decode cX8_least 1 = .ok (.aload_n 0, 1) := by decide +kernel
theorem dX8_least_2 : decode cX8_least 2 = .ok (.iload_n 1, 1) := by decide +kernel
theorem dX8_least_3 : decode cX8_least 3 = .ok (.invokevirtual 34, 3) := by decide +kernel
theorem dX8_least_6 : decode cX8_least 6 = .ok (.iconst 1, 1) := by decide +kernel
theorem dX8_least_7 : decode cX8_least 7 = .ok (.invokevirtual 70, 3) := by decide +kernel
theorem dX8_least_10 : decode cX8_least 10 = .ok (.ifCond .ne 16, 3) := by decide +kernel
theorem dX8_least_26 : decode cX8_least 26 = .ok (.lconst 0, 1) := by decide +kernel
theorem dX8_least_27 : decode cX8_least 27 = .ok (.goto 13, 3) := by decide +kernel
theorem dX8_least_40 : decode cX8_least 40 = .ok (.lreturn, 1) := by decide +kernel
theorem dX8_missed_0 : decode cX8_missed 0 = .ok (.aload_n 0, 1) := by decide +kernel
theorem dX8_missed_1 : decode cX8_missed 1 = .ok (.aload_n 0, 1) := by decide +kernel
theorem dX8_missed_2 : decode cX8_missed 2 = .ok (.iload_n 1, 1) := by decide +kernel
theorem dX8_missed_3 : decode cX8_missed 3 = .ok (.invokevirtual 34, 3) := by decide +kernel
theorem dX8_missed_6 : decode cX8_missed 6 = .ok (.iconst 1, 1) := by decide +kernel
theorem dX8_missed_7 : decode cX8_missed 7 = .ok (.invokevirtual 70, 3) := by decide +kernel
theorem dX8_missed_10 : decode cX8_missed 10 = .ok (.ifCond .eq 7, 3) := by decide +kernel
theorem dX8_missed_13 : decode cX8_missed 13 = .ok (.iconst 0, 1) := by decide +kernel
theorem dX8_missed_14 : decode cX8_missed 14 = .ok (.goto 11, 3) := by decide +kernel
theorem dX8_missed_25 : decode cX8_missed 25 = .ok (.ireturn, 1) := by decide +kernel
theorem dX8_missing_0 : decode cX8_missing 0 = .ok (.aload_n 0, 1) := by decide +kernel
theorem dX8_missing_1 : decode cX8_missing 1 = .ok (.aload_n 0, 1) := by decide +kernel
theorem dX8_missing_2 : decode cX8_missing 2 = .ok (.iload_n 1, 1) := by decide +kernel
theorem dX8_missing_3 : decode cX8_missing 3 = .ok (.invokevirtual 34, 3) := by decide +kernel
theorem dX8_missing_6 : decode cX8_missing 6 = .ok (.iconst 1, 1) := by decide +kernel
theorem dX8_missing_7 : decode cX8_missing 7 = .ok (.invokevirtual 70, 3) := by decide +kernel
theorem dX8_missing_10 : decode cX8_missing 10 = .ok (.ifCond .eq 7, 3) := by decide +kernel
theorem dX8_missing_13 : decode cX8_missing 13 = .ok (.lconst 0, 1) := by decide +kernel
theorem dX8_missing_14 : decode cX8_missing 14 = .ok (.goto 11, 3) := by decide +kernel
theorem dX8_missing_25 : decode cX8_missing 25 = .ok (.lreturn, 1) := by decide +kernel
theorem dX8_no_0 : decode cX8_no 0 = .ok (.aload_n 0, 1) := by decide +kernel
theorem dX8_no_1 : decode cX8_no 1 = .ok (.iload_n 1, 1) := by decide +kernel
theorem dX8_no_2 : decode cX8_no 2 = .ok (.ifCond .eq 7, 3) := by decide +kernel
theorem dX8_no_5 : decode cX8_no 5 = .ok (.iconst 0, 1) := by decide +kernel
theorem dX8_no_6 : decode cX8_no 6 = .ok (.goto 4, 3) := by decide +kernel
theorem dX8_no_9 : decode cX8_no 9 = .ok (.iload_n 2, 1) := by decide +kernel
theorem dX8_no_10 : decode cX8_no 10 = .ok (.putfield 20, 3) := by decide +kernel
theorem dX8_no_13 : decode cX8_no 13 = .ok (.iload_n 1, 1) := by decide +kernel
theorem dX8_no_14 : decode cX8_no 14 = .ok (.ifCond .ne 7, 3) := by decide +kernel
theorem dX8_no_17 : decode cX8_no 17 = .ok (.iconst 1, 1) := by decide +kernel
theorem dX8_no_18 : decode cX8_no 18 = .ok (.goto 4, 3) := by decide +kernel
theorem dX8_no_21 : decode cX8_no 21 = .ok (.iconst 0, 1) := by decide +kernel
theorem dX8_no_22 : decode cX8_no 22 = .ok (.ireturn, 1) := by decide +kernel
theorem dX8_owed_0 : decode cX8_owed 0 = .ok (.aload_n 0, 1) := by decide +kernel
theorem dX8_owed_1 : decode cX8_owed 1 = .ok (.aload_n 0, 1) := by decide +kernel
theorem dX8_owed_2 : decode cX8_owed 2 = .ok (.iload_n 1, 1) := by decide +kernel
theorem dX8_owed_3 : decode cX8_owed 3 = .ok (.invokevirtual 34, 3) := by decide +kernel
theorem dX8_owed_6 : decode cX8_owed 6 = .ok (.iconst 1, 1) := by decide +kernel
theorem dX8_owed_7 : decode cX8_owed 7 = .ok (.invokevirtual 70, 3) := by decide +kernel
theorem dX8_owed_10 : decode cX8_owed 10 = .ok (.ifCond .eq 7, 3) := by decide +kernel
theorem dX8_owed_13 : decode cX8_owed 13 = .ok (.lconst 0, 1) := by decide +kernel
theorem dX8_owed_14 : decode cX8_owed 14 = .ok (.goto 11, 3) := by decide +kernel
theorem dX8_owed_25 : decode cX8_owed 25 = .ok (.lreturn, 1) := by decide +kernel
theorem dX8_paid_0 : decode cX8_paid 0 = .ok (.aload_n 0, 1) := by decide +kernel
theorem dX8_paid_1 : decode cX8_paid 1 = .ok (.aload_n 0, 1) := by decide +kernel
theorem dX8_paid_2 : decode cX8_paid 2 = .ok (.iload_n 1, 1) := by decide +kernel
theorem dX8_paid_3 : decode cX8_paid 3 = .ok (.invokevirtual 34, 3) := by decide +kernel
theorem dX8_paid_6 : decode cX8_paid 6 = .ok (.iconst 1, 1) := by decide +kernel
theorem dX8_paid_7 : decode cX8_paid 7 = .ok (.invokevirtual 70, 3) := by decide +kernel
theorem dX8_paid_10 : decode cX8_paid 10 = .ok (.ifCond .ne 16, 3) := by decide +kernel
theorem dX8_paid_26 : decode cX8_paid 26 = .ok (.bipush 45, 2) := by decide +kernel
theorem dX8_paid_28 : decode cX8_paid 28 = .ok (.ireturn, 1) := by decide +kernel
theorem dX8_pay_0 : decode cX8_pay 0 = .ok (.aload_n 0, 1) := by decide +kernel
theorem dX8_pay_1 : decode cX8_pay 1 = .ok (.aload_n 0, 1) := by decide +kernel
theorem dX8_pay_2 : decode cX8_pay 2 = .ok (.iload_n 1, 1) := by decide +kernel
theorem dX8_pay_3 : decode cX8_pay 3 = .ok (.invokevirtual 34, 3) := by decide +kernel
theorem dX8_pay_6 : decode cX8_pay 6 = .ok (.iconst 1, 1) := by decide +kernel
theorem dX8_pay_7 : decode cX8_pay 7 = .ok (.invokevirtual 70, 3) := by decide +kernel
theorem dX8_pay_10 : decode cX8_pay 10 = .ok (.ifCond .ne 31, 3) := by decide +kernel
theorem dX8_pay_41 : decode cX8_pay 41 = .ok (.iconst 0, 1) := by decide +kernel
theorem dX8_pay_42 : decode cX8_pay 42 = .ok (.ireturn, 1) := by decide +kernel
theorem dX8_plan_0 : decode cX8_plan 0 = .ok (.aload_n 0, 1) := by decide +kernel
theorem dX8_plan_1 : decode cX8_plan 1 = .ok (.aload_n 0, 1) := by decide +kernel
theorem dX8_plan_2 : decode cX8_plan 2 = .ok (.iload_n 1, 1) := by decide +kernel
theorem dX8_plan_3 : decode cX8_plan 3 = .ok (.invokevirtual 34, 3) := by decide +kernel
theorem dX8_plan_6 : decode cX8_plan 6 = .ok (.iconst 1, 1) := by decide +kernel
theorem dX8_plan_7 : decode cX8_plan 7 = .ok (.invokevirtual 70, 3) := by decide +kernel
theorem dX8_plan_10 : decode cX8_plan 10 = .ok (.ifCond .eq 5, 3) := by decide +kernel
theorem dX8_plan_13 : decode cX8_plan 13 = .ok (.iconst 0, 1) := by decide +kernel
theorem dX8_plan_14 : decode cX8_plan 14 = .ok (.ireturn, 1) := by decide +kernel
theorem dX8_points_0 : decode cX8_points 0 = .ok (.aload_n 0, 1) := by decide +kernel
theorem dX8_points_1 : decode cX8_points 1 = .ok (.aload_n 0, 1) := by decide +kernel
theorem dX8_points_2 : decode cX8_points 2 = .ok (.iload_n 1, 1) := by decide +kernel
theorem dX8_points_3 : decode cX8_points 3 = .ok (.invokevirtual 34, 3) := by decide +kernel
theorem dX8_points_6 : decode cX8_points 6 = .ok (.iconst 1, 1) := by decide +kernel
theorem dX8_points_7 : decode cX8_points 7 = .ok (.invokevirtual 70, 3) := by decide +kernel
theorem dX8_points_10 : decode cX8_points 10 = .ok (.ifCond .eq 7, 3) := by decide +kernel
theorem dX8_points_13 : decode cX8_points 13 = .ok (.lconst 0, 1) := by decide +kernel
theorem dX8_points_14 : decode cX8_points 14 = .ok (.goto 8, 3) := by decide +kernel
theorem dX8_points_22 : decode cX8_points 22 = .ok (.lreturn, 1) := by decide +kernel
theorem dX8_promote_0 : decode cX8_promote 0 = .ok (.aload_n 0, 1) := by decide +kernel
theorem dX8_promote_1 : decode cX8_promote 1 = .ok (.aload_n 0, 1) := by decide +kernel
theorem dX8_promote_2 : decode cX8_promote 2 = .ok (.iload_n 1, 1) := by decide +kernel
theorem dX8_promote_3 : decode cX8_promote 3 = .ok (.invokevirtual 34, 3) := by decide +kernel
theorem dX8_promote_6 : decode cX8_promote 6 = .ok (.iconst 1, 1) := by decide +kernel
theorem dX8_promote_7 : decode cX8_promote 7 = .ok (.invokevirtual 70, 3) := by decide +kernel
theorem dX8_promote_10 : decode cX8_promote 10 = .ok (.ifCond .ne 51, 3) := by decide +kernel
theorem dX8_promote_61 : decode cX8_promote 61 = .ok (.iconst 0, 1) := by decide +kernel
theorem dX8_promote_62 : decode cX8_promote 62 = .ok (.ireturn, 1) := by decide +kernel
theorem dX8_reasons_0 : decode cX8_reasons 0 = .ok (.aload_n 0, 1) := by decide +kernel
theorem dX8_reasons_1 : decode cX8_reasons 1 = .ok (.aload_n 0, 1) := by decide +kernel
theorem dX8_reasons_2 : decode cX8_reasons 2 = .ok (.iload_n 1, 1) := by decide +kernel
theorem dX8_reasons_3 : decode cX8_reasons 3 = .ok (.invokevirtual 34, 3) := by decide +kernel
theorem dX8_reasons_6 : decode cX8_reasons 6 = .ok (.iconst 1, 1) := by decide +kernel
theorem dX8_reasons_7 : decode cX8_reasons 7 = .ok (.invokevirtual 70, 3) := by decide +kernel
theorem dX8_reasons_10 : decode cX8_reasons 10 = .ok (.ifCond .ne 33, 3) := by decide +kernel
theorem dX8_reasons_43 : decode cX8_reasons 43 = .ok (.iconst 0, 1) := by decide +kernel
theorem dX8_reasons_44 : decode cX8_reasons 44 = .ok (.goto 14, 3) := by decide +kernel
theorem dX8_reasons_58 : decode cX8_reasons 58 = .ok (.ireturn, 1) := by decide +kernel
theorem dX8_redeem_0 : decode cX8_redeem 0 = .ok (.aload_n 0, 1) := by decide +kernel
theorem dX8_redeem_1 : decode cX8_redeem 1 = .ok (.aload_n 0, 1) := by decide +kernel
theorem dX8_redeem_2 : decode cX8_redeem 2 = .ok (.iload_n 1, 1) := by decide +kernel
theorem dX8_redeem_3 : decode cX8_redeem 3 = .ok (.invokevirtual 34, 3) := by decide +kernel
theorem dX8_redeem_6 : decode cX8_redeem 6 = .ok (.iconst 1, 1) := by decide +kernel
theorem dX8_redeem_7 : decode cX8_redeem 7 = .ok (.invokevirtual 70, 3) := by decide +kernel
theorem dX8_redeem_10 : decode cX8_redeem 10 = .ok (.ifCond .ne 55, 3) := by decide +kernel
theorem dX8_redeem_65 : decode cX8_redeem 65 = .ok (.iconst 0, 1) := by decide +kernel
theorem dX8_redeem_66 : decode cX8_redeem 66 = .ok (.ireturn, 1) := by decide +kernel
theorem dX8_returns_0 : decode cX8_returns 0 = .ok (.aload_n 0, 1) := by decide +kernel
theorem dX8_returns_1 : decode cX8_returns 1 = .ok (.aload_n 0, 1) := by decide +kernel
theorem dX8_returns_2 : decode cX8_returns 2 = .ok (.iload_n 1, 1) := by decide +kernel
theorem dX8_returns_3 : decode cX8_returns 3 = .ok (.iload_n 2, 1) := by decide +kernel
theorem dX8_returns_4 : decode cX8_returns 4 = .ok (.invokevirtual 134, 3) := by decide +kernel
theorem dX8_returns_7 : decode cX8_returns 7 = .ok (.iconst 1, 1) := by decide +kernel
theorem dX8_returns_8 : decode cX8_returns 8 = .ok (.invokevirtual 70, 3) := by decide +kernel
theorem dX8_returns_11 : decode cX8_returns 11 = .ok (.ifCond .ne 55, 3) := by decide +kernel
theorem dX8_returns_66 : decode cX8_returns 66 = .ok (.iconst 0, 1) := by decide +kernel
theorem dX8_returns_67 : decode cX8_returns 67 = .ok (.ireturn, 1) := by decide +kernel
theorem dX8_reverse_0 : decode cX8_reverse 0 = .ok (.aload_n 0, 1) := by decide +kernel
theorem dX8_reverse_1 : decode cX8_reverse 1 = .ok (.aload_n 0, 1) := by decide +kernel
theorem dX8_reverse_2 : decode cX8_reverse 2 = .ok (.iload_n 1, 1) := by decide +kernel
theorem dX8_reverse_3 : decode cX8_reverse 3 = .ok (.iload_n 2, 1) := by decide +kernel
theorem dX8_reverse_4 : decode cX8_reverse 4 = .ok (.invokevirtual 134, 3) := by decide +kernel
theorem dX8_reverse_7 : decode cX8_reverse 7 = .ok (.iconst 1, 1) := by decide +kernel
theorem dX8_reverse_8 : decode cX8_reverse 8 = .ok (.invokevirtual 70, 3) := by decide +kernel
theorem dX8_reverse_11 : decode cX8_reverse 11 = .ok (.ifCond .eq 5, 3) := by decide +kernel
theorem dX8_reverse_14 : decode cX8_reverse 14 = .ok (.lconst 0, 1) := by decide +kernel
theorem dX8_reverse_15 : decode cX8_reverse 15 = .ok (.lreturn, 1) := by decide +kernel
theorem dX8_setLimit_0 : decode cX8_setLimit 0 = .ok (.aload_n 0, 1) := by decide +kernel
theorem dX8_setLimit_1 : decode cX8_setLimit 1 = .ok (.aload_n 0, 1) := by decide +kernel
theorem dX8_setLimit_2 : decode cX8_setLimit 2 = .ok (.iload_n 1, 1) := by decide +kernel
theorem dX8_setLimit_3 : decode cX8_setLimit 3 = .ok (.invokevirtual 34, 3) := by decide +kernel
theorem dX8_setLimit_6 : decode cX8_setLimit 6 = .ok (.iconst 1, 1) := by decide +kernel
theorem dX8_setLimit_7 : decode cX8_setLimit 7 = .ok (.invokevirtual 70, 3) := by decide +kernel
theorem dX8_setLimit_10 : decode cX8_setLimit 10 = .ok (.ifCond .ne 18, 3) := by decide +kernel
theorem dX8_setLimit_28 : decode cX8_setLimit 28 = .ok (.iconst 0, 1) := by decide +kernel
theorem dX8_setLimit_29 : decode cX8_setLimit 29 = .ok (.ireturn, 1) := by decide +kernel
theorem dX8_setRate_0 : decode cX8_setRate 0 = .ok (.aload_n 0, 1) := by decide +kernel
theorem dX8_setRate_1 : decode cX8_setRate 1 = .ok (.aload_n 0, 1) := by decide +kernel
theorem dX8_setRate_2 : decode cX8_setRate 2 = .ok (.iload_n 1, 1) := by decide +kernel
theorem dX8_setRate_3 : decode cX8_setRate 3 = .ok (.invokevirtual 34, 3) := by decide +kernel
theorem dX8_setRate_6 : decode cX8_setRate 6 = .ok (.iconst 1, 1) := by decide +kernel
theorem dX8_setRate_7 : decode cX8_setRate 7 = .ok (.invokevirtual 70, 3) := by decide +kernel
theorem dX8_setRate_10 : decode cX8_setRate 10 = .ok (.ifCond .ne 47, 3) := by decide +kernel
theorem dX8_setRate_57 : decode cX8_setRate 57 = .ok (.iconst 0, 1) := by decide +kernel
theorem dX8_setRate_58 : decode cX8_setRate 58 = .ok (.ireturn, 1) := by decide +kernel
theorem dX8_settle_0 : decode cX8_settle 0 = .ok (.aload_n 0, 1) := by decide +kernel
theorem dX8_settle_1 : decode cX8_settle 1 = .ok (.aload_n 0, 1) := by decide +kernel
theorem dX8_settle_2 : decode cX8_settle 2 = .ok (.iload_n 1, 1) := by decide +kernel
theorem dX8_settle_3 : decode cX8_settle 3 = .ok (.iload_n 2, 1) := by decide +kernel
theorem dX8_settle_4 : decode cX8_settle 4 = .ok (.invokevirtual 134, 3) := by decide +kernel
theorem dX8_settle_7 : decode cX8_settle 7 = .ok (.iconst 1, 1) := by decide +kernel
theorem dX8_settle_8 : decode cX8_settle 8 = .ok (.invokevirtual 70, 3) := by decide +kernel
theorem dX8_settle_11 : decode cX8_settle 11 = .ok (.ifCond .ne 20, 3) := by decide +kernel
theorem dX8_settle_31 : decode cX8_settle 31 = .ok (.lconst 0, 1) := by decide +kernel
theorem dX8_settle_32 : decode cX8_settle 32 = .ok (.lreturn, 1) := by decide +kernel
theorem dX8_statement_0 : decode cX8_statement 0 = .ok (.aload_n 0, 1) := by decide +kernel
theorem dX8_statement_1 : decode cX8_statement 1 = .ok (.aload_n 0, 1) := by decide +kernel
theorem dX8_statement_2 : decode cX8_statement 2 = .ok (.iload_n 1, 1) := by decide +kernel
theorem dX8_statement_3 : decode cX8_statement 3 = .ok (.invokevirtual 34, 3) := by decide +kernel
theorem dX8_statement_6 : decode cX8_statement 6 = .ok (.iconst 1, 1) := by decide +kernel
theorem dX8_statement_7 : decode cX8_statement 7 = .ok (.invokevirtual 70, 3) := by decide +kernel
theorem dX8_statement_10 : decode cX8_statement 10 = .ok (.ifCond .ne 16, 3) := by decide +kernel
theorem dX8_statement_26 : decode cX8_statement 26 = .ok (.lconst 0, 1) := by decide +kernel
theorem dX8_statement_27 : decode cX8_statement 27 = .ok (.goto 13, 3) := by decide +kernel
theorem dX8_statement_40 : decode cX8_statement 40 = .ok (.lreturn, 1) := by decide +kernel
theorem dX8_sum_0 : decode cX8_sum 0 = .ok (.aload_n 0, 1) := by decide +kernel
theorem dX8_sum_1 : decode cX8_sum 1 = .ok (.aload_n 0, 1) := by decide +kernel
theorem dX8_sum_2 : decode cX8_sum 2 = .ok (.iload_n 1, 1) := by decide +kernel
theorem dX8_sum_3 : decode cX8_sum 3 = .ok (.iload_n 2, 1) := by decide +kernel
theorem dX8_sum_4 : decode cX8_sum 4 = .ok (.invokevirtual 134, 3) := by decide +kernel
theorem dX8_sum_7 : decode cX8_sum 7 = .ok (.iconst 1, 1) := by decide +kernel
theorem dX8_sum_8 : decode cX8_sum 8 = .ok (.invokevirtual 70, 3) := by decide +kernel
theorem dX8_sum_11 : decode cX8_sum 11 = .ok (.ifCond .eq 7, 3) := by decide +kernel
theorem dX8_sum_14 : decode cX8_sum 14 = .ok (.iconst 0, 1) := by decide +kernel
theorem dX8_sum_15 : decode cX8_sum 15 = .ok (.goto 12, 3) := by decide +kernel
theorem dX8_sum_27 : decode cX8_sum 27 = .ok (.ireturn, 1) := by decide +kernel
theorem dX8_thrown_0 : decode cX8_thrown 0 = .ok (.aload_n 0, 1) := by decide +kernel
theorem dX8_thrown_1 : decode cX8_thrown 1 = .ok (.getfield 20, 3) := by decide +kernel
theorem dX8_thrown_4 : decode cX8_thrown 4 = .ok (.ireturn, 1) := by decide +kernel
theorem dX8_told_0 : decode cX8_told 0 = .ok (.aload_n 0, 1) := by decide +kernel
theorem dX8_told_1 : decode cX8_told 1 = .ok (.aload_n 0, 1) := by decide +kernel
theorem dX8_told_2 : decode cX8_told 2 = .ok (.iload_n 1, 1) := by decide +kernel
theorem dX8_told_3 : decode cX8_told 3 = .ok (.invokevirtual 34, 3) := by decide +kernel
theorem dX8_told_6 : decode cX8_told 6 = .ok (.iconst 1, 1) := by decide +kernel
theorem dX8_told_7 : decode cX8_told 7 = .ok (.invokevirtual 70, 3) := by decide +kernel
theorem dX8_told_10 : decode cX8_told 10 = .ok (.ifCond .ne 17, 3) := by decide +kernel
theorem dX8_told_27 : decode cX8_told 27 = .ok (.lconst 0, 1) := by decide +kernel
theorem dX8_told_28 : decode cX8_told 28 = .ok (.goto 24, 3) := by decide +kernel
theorem dX8_told_52 : decode cX8_told 52 = .ok (.lreturn, 1) := by decide +kernel
theorem dX8_why_0 : decode cX8_why 0 = .ok (.aload_n 0, 1) := by decide +kernel
theorem dX8_why_1 : decode cX8_why 1 = .ok (.aload_n 0, 1) := by decide +kernel
theorem dX8_why_2 : decode cX8_why 2 = .ok (.iload_n 1, 1) := by decide +kernel
theorem dX8_why_3 : decode cX8_why 3 = .ok (.invokevirtual 34, 3) := by decide +kernel
theorem dX8_why_6 : decode cX8_why 6 = .ok (.iconst 1, 1) := by decide +kernel
theorem dX8_why_7 : decode cX8_why 7 = .ok (.invokevirtual 70, 3) := by decide +kernel
theorem dX8_why_10 : decode cX8_why 10 = .ok (.ifCond .ne 33, 3) := by decide +kernel
theorem dX8_why_43 : decode cX8_why 43 = .ok (.bipush 45, 2) := by decide +kernel
theorem dX8_why_45 : decode cX8_why 45 = .ok (.ireturn, 1) := by decide +kernel
abbrev zc : List vw_C := [(RJx4a65c, TJx4a65c, 3), (RJx35411, TJx35411, 4), (RX0, TX0, 9), (RX1, TX1, 17), (RX3, TX3, 5), (RX4, TX4, 4), (RX5, TX5, 4), (RX8, TX8, 4)]
/-! what every contract here is written in: one list of words, one shape of start -/
def zG : List Cond := lw_tbl.filter goodWord
theorem zg_mem {w : Cond} (i : Nat) (h : lw_tbl[i]? = some w) (hg : goodWord w = true) : w ∈ zG := List.mem_filter.mpr ⟨List.mem_of_getElem? h, hg⟩
theorem zg_tbl {w : Cond} (h : w ∈ zG) : w ∈ lw_tbl := (List.mem_filter.mp h).1
theorem zg_good {w : Cond} (h : w ∈ zG) : goodWord w = true := (List.mem_filter.mp h).2
theorem zg_in {ws : List Cond} (h : ∀ w ∈ ws, w ∈ zG) : GoodIn zG ws := fun w hw => ⟨h w hw, good_of_word (zg_good (h w hw))⟩
theorem zg_cons {w0 : Cond} (h : w0 ∈ zG) : ∀ w ∈ w0 :: zG, w ∈ zG := fun w hw => (List.mem_cons.mp hw).elim (fun e => e ▸ h) id
theorem zg_c {w0 : Cond} (h : w0 ∈ zG) : GoodIn zG (w0 :: zG) := zg_in (zg_cons h)
theorem zg_app {w0 : Cond} {pre : List Cond} (h : w0 ∈ zG) (hp : ∀ w ∈ pre, w ∈ zG) : GoodIn zG (pre ++ w0 :: zG) := zg_in (fun w hw => (List.mem_append.mp hw).elim (hp w) (zg_cons h w))
theorem zg_l2 {a b : Cond} (ha : a ∈ zG) (hb : b ∈ zG) : ∀ w ∈ [a, b], w ∈ zG := List.forall_mem_cons.mpr ⟨ha, List.forall_mem_cons.mpr ⟨hb, fun _ h => absurd h List.not_mem_nil⟩⟩
theorem zg_l3 {a b c : Cond} (ha : a ∈ zG) (hb : b ∈ zG) (hc : c ∈ zG) : ∀ w ∈ [a, b, c], w ∈ zG := List.forall_mem_cons.mpr ⟨ha, zg_l2 hb hc⟩
theorem zg_l4 {a b c d : Cond} (ha : a ∈ zG) (hb : b ∈ zG) (hc : c ∈ zG) (hd : d ∈ zG) : ∀ w ∈ [a, b, c, d], w ∈ zG := List.forall_mem_cons.mpr ⟨ha, zg_l3 hb hc hd⟩
theorem zg_V {own C : String} {idx : Nat} {y : MethodName} {w0 : Cond} (h1 : Cond.methodLink own idx y ∈ zG) (h2 : Cond.instanceMethod y ∈ zG) (h3 : Cond.selects C y y ∈ zG) (h4 : Cond.initialized C ∈ zG) (h : w0 ∈ zG) : GoodIn zG (wsV own idx C y (w0 :: zG)) := zg_app h (zg_l4 h1 h2 h3 h4)
theorem zg_S {own : String} {idx : Nat} {y : MethodName} {w0 : Cond} (h1 : Cond.methodLink own idx y ∈ zG) (h2 : Cond.static y ∈ zG) (h3 : Cond.initialized y.cls ∈ zG) (h : w0 ∈ zG) : GoodIn zG (va_wsS own idx y (w0 :: zG)) := zg_app h (zg_l3 h1 h2 h3)
theorem zg_F {own C : String} {idx : Nat} {x y : MethodName} {w0 : Cond} (h1 : Cond.methodLink own idx x ∈ zG) (h2 : Cond.selects C x y ∈ zG) (h3 : Cond.instanceMethod y ∈ zG) (h4 : Cond.initialized y.cls ∈ zG) (h : w0 ∈ zG) : GoodIn zG (va_wsF own idx C x y (w0 :: zG)) := zg_app h (zg_l4 h1 h2 h3 h4)
/-- the tables' words that aren't kept by a list: of nest mates, interfaces, arrays, casts -/
def zN : List Cond := lw_tbl.filter (fun w => w.onTables)
def zT (U : State) : Prop := va_Nw (.methodLinkNest RX4 22 yX1_init RX4) U ∧ va_Nw (.methodLinkNest RX4 45 yX0_init RX4) U ∧ va_Nw (.methodLinkNest RX0 37 yX1_init RX4) U ∧ va_Nw (.methodLinkNest RX1 31 yX3_init RX4) U ∧ va_Nw (.methodLinkNest RX8 74 yX5_init RX8) U ∧ va_Fw RJx4a65c ⟨"java/util/List", "size", "()I"⟩ yJx4a65c_size_8abf5 U ∧ va_Fw RJx4a65c ⟨"java/util/List", "get", "(I)Ljava/lang/Object;"⟩ yJx4a65c_get_915e3 U ∧ va_Fw RJx4a65c ⟨"java/util/List", "add", "(Ljava/lang/Object;)Z"⟩ yJx4a65c_add_9ea2d U ∧ va_Fw RJx4a65c ⟨"java/util/List", "isEmpty", "()Z"⟩ yJx4a65c_isEmpty_aae02 U ∧ va_Fw RJx4a65c ⟨"java/util/List", "iterator", "()Ljava/util/Iterator;"⟩ yJx4a65c_iterator_32c93 U ∧ va_Fw RJx35411 ⟨"java/util/Iterator", "hasNext", "()Z"⟩ yJx35411_hasNext_aae02 U ∧ va_AO "StatementCycle$Statement" U ∧ va_AO "java/lang/Object" U ∧ va_AO "java/lang/Long" U ∧ va_Nw (.castable RX0 "java/lang/Object") U ∧ va_Nw (.castable RX5 "java/lang/Object") U ∧ va_Nw (.castable "java/lang/IndexOutOfBoundsException" "java/lang/IndexOutOfBoundsException") U ∧ va_Nw (.castable "java/lang/IllegalArgumentException" "java/lang/IllegalArgumentException") U ∧ va_Nw (.castable "java/lang/ArithmeticException" "java/lang/ArithmeticException") U ∧ va_Nw (.declares ⟨"java/lang/RuntimeException", "<init>", "()V"⟩) U ∧ va_Nw (.declares ⟨"java/lang/Exception", "<init>", "()V"⟩) U ∧ va_Nw (.declares ⟨"java/lang/Throwable", "<init>", "()V"⟩) U
theorem zT_nX4_22 {U : State} (h : zT U) : va_Nw (.methodLinkNest RX4 22 yX1_init RX4) U := h.1
theorem zT_nX4_45 {U : State} (h : zT U) : va_Nw (.methodLinkNest RX4 45 yX0_init RX4) U := h.2.1
theorem zT_nX0_37 {U : State} (h : zT U) : va_Nw (.methodLinkNest RX0 37 yX1_init RX4) U := h.2.2.1
theorem zT_nX1_31 {U : State} (h : zT U) : va_Nw (.methodLinkNest RX1 31 yX3_init RX4) U := h.2.2.2.1
theorem zT_nX8_74 {U : State} (h : zT U) : va_Nw (.methodLinkNest RX8 74 yX5_init RX8) U := h.2.2.2.2.1
theorem zT_fsize {U : State} (h : zT U) : va_Fw RJx4a65c ⟨"java/util/List", "size", "()I"⟩ yJx4a65c_size_8abf5 U := h.2.2.2.2.2.1
theorem zT_fget {U : State} (h : zT U) : va_Fw RJx4a65c ⟨"java/util/List", "get", "(I)Ljava/lang/Object;"⟩ yJx4a65c_get_915e3 U := h.2.2.2.2.2.2.1
theorem zT_fadd {U : State} (h : zT U) : va_Fw RJx4a65c ⟨"java/util/List", "add", "(Ljava/lang/Object;)Z"⟩ yJx4a65c_add_9ea2d U := h.2.2.2.2.2.2.2.1
theorem zT_fisEmpty {U : State} (h : zT U) : va_Fw RJx4a65c ⟨"java/util/List", "isEmpty", "()Z"⟩ yJx4a65c_isEmpty_aae02 U := h.2.2.2.2.2.2.2.2.1
theorem zT_fiterator {U : State} (h : zT U) : va_Fw RJx4a65c ⟨"java/util/List", "iterator", "()Ljava/util/Iterator;"⟩ yJx4a65c_iterator_32c93 U := h.2.2.2.2.2.2.2.2.2.1
theorem zT_fhasNext {U : State} (h : zT U) : va_Fw RJx35411 ⟨"java/util/Iterator", "hasNext", "()Z"⟩ yJx35411_hasNext_aae02 U := h.2.2.2.2.2.2.2.2.2.2.1
theorem zT_aoS {U : State} (h : zT U) : va_AO "StatementCycle$Statement" U := h.2.2.2.2.2.2.2.2.2.2.2.1
theorem zT_aoO {U : State} (h : zT U) : va_AO "java/lang/Object" U := h.2.2.2.2.2.2.2.2.2.2.2.2.1
theorem zT_aoL {U : State} (h : zT U) : va_AO "java/lang/Long" U := h.2.2.2.2.2.2.2.2.2.2.2.2.2.1
theorem zT_caX0 {U : State} (h : zT U) : va_Nw (.castable RX0 "java/lang/Object") U := h.2.2.2.2.2.2.2.2.2.2.2.2.2.2.1
theorem zT_caX5 {U : State} (h : zT U) : va_Nw (.castable RX5 "java/lang/Object") U := h.2.2.2.2.2.2.2.2.2.2.2.2.2.2.2.1
theorem zT_kI {U : State} (h : zT U) : va_Nw (.castable "java/lang/IndexOutOfBoundsException" "java/lang/IndexOutOfBoundsException") U := h.2.2.2.2.2.2.2.2.2.2.2.2.2.2.2.2.1
theorem zT_kA {U : State} (h : zT U) : va_Nw (.castable "java/lang/IllegalArgumentException" "java/lang/IllegalArgumentException") U := h.2.2.2.2.2.2.2.2.2.2.2.2.2.2.2.2.2.1
theorem zT_kR {U : State} (h : zT U) : va_Nw (.castable "java/lang/ArithmeticException" "java/lang/ArithmeticException") U := h.2.2.2.2.2.2.2.2.2.2.2.2.2.2.2.2.2.2.1
theorem zT_dR {U : State} (h : zT U) : va_Nw (.declares ⟨"java/lang/RuntimeException", "<init>", "()V"⟩) U := h.2.2.2.2.2.2.2.2.2.2.2.2.2.2.2.2.2.2.2.1
theorem zT_dE {U : State} (h : zT U) : va_Nw (.declares ⟨"java/lang/Exception", "<init>", "()V"⟩) U := h.2.2.2.2.2.2.2.2.2.2.2.2.2.2.2.2.2.2.2.2.1
theorem zT_dT {U : State} (h : zT U) : va_Nw (.declares ⟨"java/lang/Throwable", "<init>", "()V"⟩) U := h.2.2.2.2.2.2.2.2.2.2.2.2.2.2.2.2.2.2.2.2.2
theorem zT_moved {s U : State} (hW : s.WarmedH U.vm) (h : zT s) : zT U := ⟨va_Nw.warmM hW (zT_nX4_22 h), va_Nw.warmM hW (zT_nX4_45 h), va_Nw.warmM hW (zT_nX0_37 h), va_Nw.warmM hW (zT_nX1_31 h), va_Nw.warmM hW (zT_nX8_74 h), va_Fw.moved ⟨by decide +kernel, by decide +kernel⟩ hW.alike (zT_fsize h), va_Fw.moved ⟨by decide +kernel, by decide +kernel⟩ hW.alike (zT_fget h), va_Fw.moved ⟨by decide +kernel, by decide +kernel⟩ hW.alike (zT_fadd h), va_Fw.moved ⟨by decide +kernel, by decide +kernel⟩ hW.alike (zT_fisEmpty h), va_Fw.moved ⟨by decide +kernel, by decide +kernel⟩ hW.alike (zT_fiterator h), va_Fw.moved ⟨by decide +kernel, by decide +kernel⟩ hW.alike (zT_fhasNext h), va_AO.moved hW.alike (zT_aoS h), va_AO.moved hW.alike (zT_aoO h), va_AO.moved hW.alike (zT_aoL h), va_Nw.warmC hW (zT_caX0 h), va_Nw.warmC hW (zT_caX5 h), va_Nw.warmC hW (zT_kI h), va_Nw.warmC hW (zT_kA h), va_Nw.warmC hW (zT_kR h), va_Nw.warmD hW (zT_dR h), va_Nw.warmD hW (zT_dE h), va_Nw.warmD hW (zT_dT h)⟩
def zK (X : String) : List Cond := [.castable X X, .declares ⟨"java/lang/RuntimeException", "<init>", "()V"⟩, .declares ⟨"java/lang/Exception", "<init>", "()V"⟩, .declares ⟨"java/lang/Throwable", "<init>", "()V"⟩]
theorem zK_all {X : String} {A : Array Value} {U : State} (hc : va_Nw (.castable X X) U) (h : zT U) : ∀ w ∈ zK X, w.before A U = true := List.forall_mem_cons.mpr ⟨va_Nw.use rfl hc, List.forall_mem_cons.mpr ⟨va_Nw.use rfl (zT_dR h), List.forall_mem_cons.mpr ⟨va_Nw.use rfl (zT_dE h), List.forall_mem_cons.mpr ⟨va_Nw.use rfl (zT_dT h), fun _ h => absurd h List.not_mem_nil⟩⟩⟩⟩
theorem zK_hat {L : List Cond} {X : String} {A : Array Value} {U : State} (hL : ∀ w ∈ L, (w ∈ zG ∨ w ∈ zK X) ∧ vx_ot w = true) (hts : ∀ w ∈ zG, w.before A U = true) (hc : va_Nw (.castable X X) U) (h : zT U) : ∀ w ∈ L, w.before A U = true := fun w hw => (hL w hw).1.elim (hts w) (zK_all hc h w)
theorem zT_made {s : State} {A : Array Value} (h : ∀ w ∈ lw_tbl, w.before A s = true) : zT s :=
  ⟨va_Nw.of rfl (h _ (List.mem_of_getElem? (i := 142) (by decide +kernel))),
   va_Nw.of rfl (h _ (List.mem_of_getElem? (i := 518) (by decide +kernel))),
   va_Nw.of rfl (h _ (List.mem_of_getElem? (i := 525) (by decide +kernel))),
   va_Nw.of rfl (h _ (List.mem_of_getElem? (i := 149) (by decide +kernel))),
   va_Nw.of rfl (h _ (List.mem_of_getElem? (i := 1391) (by decide +kernel))),
   va_Fw.of (h _ (List.mem_of_getElem? (i := 1384) (by decide +kernel))) (h _ (List.mem_of_getElem? (i := 1383) (by decide +kernel))) (h _ (List.mem_of_getElem? (i := 1388) (by decide +kernel))) (h _ (List.mem_of_getElem? (i := 1387) (by decide +kernel))) (h _ (List.mem_of_getElem? (i := 1385) (by decide +kernel))),
   va_Fw.of (h _ (List.mem_of_getElem? (i := 1424) (by decide +kernel))) (h _ (List.mem_of_getElem? (i := 1423) (by decide +kernel))) (h _ (List.mem_of_getElem? (i := 1427) (by decide +kernel))) (h _ (List.mem_of_getElem? (i := 1426) (by decide +kernel))) (h _ (List.mem_of_getElem? (i := 1385) (by decide +kernel))),
   va_Fw.of (h _ (List.mem_of_getElem? (i := 1417) (by decide +kernel))) (h _ (List.mem_of_getElem? (i := 1416) (by decide +kernel))) (h _ (List.mem_of_getElem? (i := 1420) (by decide +kernel))) (h _ (List.mem_of_getElem? (i := 1419) (by decide +kernel))) (h _ (List.mem_of_getElem? (i := 1385) (by decide +kernel))),
   va_Fw.of (h _ (List.mem_of_getElem? (i := 2010) (by decide +kernel))) (h _ (List.mem_of_getElem? (i := 2009) (by decide +kernel))) (h _ (List.mem_of_getElem? (i := 2014) (by decide +kernel))) (h _ (List.mem_of_getElem? (i := 2012) (by decide +kernel))) (h _ (List.mem_of_getElem? (i := 1385) (by decide +kernel))),
   va_Fw.of (h _ (List.mem_of_getElem? (i := 1587) (by decide +kernel))) (h _ (List.mem_of_getElem? (i := 1586) (by decide +kernel))) (h _ (List.mem_of_getElem? (i := 1591) (by decide +kernel))) (h _ (List.mem_of_getElem? (i := 1589) (by decide +kernel))) (h _ (List.mem_of_getElem? (i := 1385) (by decide +kernel))),
   va_Fw.of (h _ (List.mem_of_getElem? (i := 1616) (by decide +kernel))) (h _ (List.mem_of_getElem? (i := 1615) (by decide +kernel))) (h _ (List.mem_of_getElem? (i := 1621) (by decide +kernel))) (h _ (List.mem_of_getElem? (i := 1619) (by decide +kernel))) (h _ (List.mem_of_getElem? (i := 1617) (by decide +kernel))),
   va_AO.of (h _ (List.mem_of_getElem? (i := 147) (by decide +kernel))),
   va_AO.of (h _ (List.mem_of_getElem? (i := 618) (by decide +kernel))),
   va_AO.of (h _ (List.mem_of_getElem? (i := 1398) (by decide +kernel))),
   va_Nw.of rfl (h _ (List.mem_of_getElem? (i := 2039) (by decide +kernel))),
   va_Nw.of rfl (h _ (List.mem_of_getElem? (i := 2040) (by decide +kernel))),
   va_Nw.of rfl (h _ (List.mem_of_getElem? (i := 674) (by decide +kernel))),
   va_Nw.of rfl (h _ (List.mem_of_getElem? (i := 437) (by decide +kernel))),
   va_Nw.of rfl (h _ (List.mem_of_getElem? (i := 1326) (by decide +kernel))),
   va_Nw.of rfl (h _ (List.mem_of_getElem? (i := 438) (by decide +kernel))),
   va_Nw.of rfl (h _ (List.mem_of_getElem? (i := 440) (by decide +kernel))),
   va_Nw.of rfl (h _ (List.mem_of_getElem? (i := 442) (by decide +kernel)))⟩
def zS1 (A : Nat → Prop) (U : State) (H : Heap) : Prop := vx_Zq Bundle.tN "UNASSIGNED_STACK" Bundle.steD A U H
def zS2 (A : Nat → Prop) (U : State) (H : Heap) : Prop := vx_Zq Bundle.tN "SUPPRESSED_SENTINEL" Bundle.listD A U H
def zS3 (t : Nat) (A : Nat → Prop) (U : State) (H : Heap) : Prop := va_Z "java/util/ArrayList" "DEFAULTCAPACITY_EMPTY_ELEMENTDATA" "[Ljava/lang/Object;" (.ref t) A U H
def zS4 (t : Nat) (A : Nat → Prop) (U : State) (H : Heap) : Prop := va_T (.object "java/lang/Object") t 0 (fun _ => .null) A U H
def zZ (t : Nat) (A : Nat → Prop) (U : State) (H : Heap) : Prop := zS1 A U H ∧ zS2 A U H ∧ zS3 t A U H ∧ zS4 t A U H
theorem zZ_kept {t : Nat} {A : Nat → Prop} {U : State} {H H1 : Heap} (h : zZ t A U H) (hq : ∀ a : Nat, a < H.size → ¬ A a → H1[a]? = H[a]?) : zZ t A U H1 := ⟨vx_Zq.kept h.1 hq, vx_Zq.kept h.2.1 hq, va_Z.kept h.2.2.1 hq, va_T.kept h.2.2.2 hq⟩
theorem zZ_narrow {t : Nat} {A B : Nat → Prop} {U : State} {H : Heap} (h : zZ t A U H) (hAB : ∀ q, B q → A q) : zZ t B U H := ⟨vx_Zq.narrow h.1 hAB, vx_Zq.narrow h.2.1 hAB, va_Z.narrow h.2.2.1 hAB, va_T.narrow h.2.2.2 hAB⟩
theorem zZ_moved {t : Nat} {A : Nat → Prop} {u U : State} {H : Heap} (hvm : u.vm.Alike U.vm) (h : zZ t A u H) : zZ t A U H := ⟨vx_Zq.moved hvm h.1, vx_Zq.moved hvm h.2.1, va_Z.moved hvm h.2.2.1, va_T.moved hvm h.2.2.2⟩
def zQ (t : Nat) (A : Nat → Prop) (U : State) (H : Heap) : Prop := zT U ∧ zZ t A U H
theorem zQ_moved {t : Nat} {A : Nat → Prop} {u U : State} {H : Heap} (hW : u.WarmedH U.vm) (h : zQ t A u H) : zQ t A U H := ⟨zT_moved hW h.1, zZ_moved hW.alike h.2⟩
theorem zQ_narrow {t : Nat} {A B : Nat → Prop} {U : State} {H : Heap} (h : zQ t A U H) (hAB : ∀ q, B q → A q) : zQ t B U H := ⟨h.1, zZ_narrow h.2 hAB⟩
def zA (dC : Nat → ClassId) (dI : Nat → Nat → Nat) (ws : va_W) (tys : List (ClassId × FieldType)) (sz t : Nat) (av : List Value) : Array Value → State → Prop :=
  va_Pc av (fun U => U.heap.size = sz ∧ va_P (dC, dI) zc ws U.heap ∧ va_K (dC, dI) zc tys U ∧ va_D (fun _ => True) ws ∧ zQ t (va_A ws sz) U U.heap)
def zB (dC : Nat → ClassId) (dI : Nat → Nat → Nat) (A : Nat → Prop) (ws : va_W) (tys : List (ClassId × FieldType)) (t : State) : Prop :=
  va_P (dC, dI) zc ws t.heap ∧ va_K (dC, dI) zc tys t ∧ va_D A ws
theorem zA_blind {dC : Nat → ClassId} {dI : Nat → Nat → Nat} {ws : va_W} {tys : List (ClassId × FieldType)} {sz t : Nat} {av : List Value} : FrameBlind (zA dC dI ws tys sz t av) := fun a U g mk q =>
  ⟨q.1, q.2.1, q.2.2.1, va_K.moved (u := U) (U := U.calling g mk a) (Vm.Alike.refl U.vm) q.2.2.2.1, q.2.2.2.2.1, zQ_moved (u := U) (U := U.calling g mk a) (State.WarmedH.refl U) q.2.2.2.2.2⟩
/-- what a callee wants, out of what the caller holds: the cells by their places -/
theorem zA_pre {s : State} {H : Heap} {locs : List Loc} {A : Nat → Prop} {dC : Nat → ClassId} {dI : Nat → Nat → Nat} {ws wc : va_W} {tys tyc : List (ClassId × FieldType)} {t : Nat} {av : List Value}
    (hP : va_P (dC, dI) zc ws H) (hD : va_D A ws) (hS : va_S A s.heap H locs) (hK : va_K (dC, dI) zc tys s) (hQ : zQ t A s s.heap) (hA : ∀ q, s.heap.size ≤ q → A q)
    (is : List Nat) (h1 : is.filterMap (fun i => ws[i]?) = wc) (h2 : is.map (fun i => ws[i]?) = wc.map some) (hn : va_nd is = true) (ks : List Nat) (h3 : ks.filterMap (fun i => tys[i]?) = tyc) :
    ∀ U : State, U.heap = H → s.WarmedH U.vm → zA dC dI wc tyc H.size t av av.toArray U := fun U hU hW => by
  have hF := va_free hD hS hA is h2
  refine ⟨rfl, by rw [hU], by rw [hU]; exact hP.sub is h1, va_K.moved hW.alike (hK.sub ks h3), (hD.sub is hn h2).weaken (fun _ _ _ _ => trivial), ?_⟩
  rw [hU]
  exact zQ_moved hW ⟨hQ.1, zZ_narrow (zZ_kept hQ.2 hS.2.1) hF⟩
theorem zP_new {dC : Nat → ClassId} {dI : Nat → Nat → Nat} {ws : va_W} {H H1 : Heap} (hP : va_P (dC, dI) zc ws H) (hk : ∀ q : Nat, q < H.size → ¬ H.size ≤ q → H1[q]? = H[q]?) : va_P (dC, dI) zc ws H1 :=
  hP.kept (fun k q h => hk q.1 (vx_lt hP h) (Nat.not_le.mpr (vx_lt hP h)))
theorem zS_F {A : Nat → Prop} {s t : State} {H : Heap} {locs : List Loc} (h : va_S A s.heap H locs) (ht : t.heap = H) : va_F A s t := h.F ht
theorem zl_b {a b : Nat} (h : Nat.ble a b = true) : a ≤ b := Nat.le_of_ble_eq_true h
end
section
theorem zi_sub {ws : List Cond} (ps : List Nat) (h : ws = ps.filterMap (fun i => lw_tbl[i]?)) : ∀ w ∈ ws, w ∈ lw_tbl := fun w hw => by
  rw [h] at hw
  obtain ⟨i, -, hi⟩ := List.mem_filterMap.mp hw
  exact List.mem_of_getElem? hi
theorem kw_30 : Cond.selects RX4 yX4_accountAt yX4_accountAt ∈ zG := zg_mem 30 (by decide +kernel) (by decide +kernel)
theorem kw_40 : Cond.selects RX8 yX8_no yX8_no ∈ zG := zg_mem 40 (by decide +kernel) (by decide +kernel)
theorem kw_41 : Cond.selects RX8 yX8_isAccount yX8_isAccount ∈ zG := zg_mem 41 (by decide +kernel) (by decide +kernel)
theorem kw_58 : Cond.selects RX8 yX8_isEvent yX8_isEvent ∈ zG := zg_mem 58 (by decide +kernel) (by decide +kernel)
theorem kw_64 : Cond.initialized RX4 ∈ zG := zg_mem 64 (by decide +kernel) (by decide +kernel)
theorem kw_65 : Cond.initialized RJxa1e45 ∈ zG := zg_mem 65 (by decide +kernel) (by decide +kernel)
theorem kw_66 : Cond.initialized RJxc12de ∈ zG := zg_mem 66 (by decide +kernel) (by decide +kernel)
theorem kw_67 : Cond.initialized RJx4a65c ∈ zG := zg_mem 67 (by decide +kernel) (by decide +kernel)
theorem kw_68 : Cond.initialized RX1 ∈ zG := zg_mem 68 (by decide +kernel) (by decide +kernel)
theorem kw_69 : Cond.initialized RX3 ∈ zG := zg_mem 69 (by decide +kernel) (by decide +kernel)
theorem kw_70 : Cond.initialized RX8 ∈ zG := zg_mem 70 (by decide +kernel) (by decide +kernel)
theorem kw_84 : Cond.initialized "java/lang/IndexOutOfBoundsException" ∈ zG := zg_mem 84 (by decide +kernel) (by decide +kernel)
theorem kw_107 : Cond.code yX4_init cX4_init 1 none ∈ zG := zg_mem 107 (by decide +kernel) (by decide +kernel)
theorem kw_108 : Cond.methodLink RX4 1 objectInit ∈ zG := zg_mem 108 (by decide +kernel) (by decide +kernel)
theorem kw_109 : Cond.instanceMethod objectInit ∈ zG := zg_mem 109 (by decide +kernel) (by decide +kernel)
theorem kw_110 : Cond.code objectInit ⟨#[0xb1]⟩ 1 none ∈ zG := zg_mem 110 (by decide +kernel) (by decide +kernel)
theorem kw_111 : Cond.classLink RX4 7 RJx4a65c ∈ zG := zg_mem 111 (by decide +kernel) (by decide +kernel)
theorem kw_112 : Cond.instantiable RJx4a65c 3 ∈ zG := zg_mem 112 (by decide +kernel) (by decide +kernel)
theorem kw_113 : Cond.methodLink RX4 9 yJx4a65c_init_da8c8 ∈ zG := zg_mem 113 (by decide +kernel) (by decide +kernel)
theorem kw_114 : Cond.instanceMethod yJx4a65c_init_da8c8 ∈ zG := zg_mem 114 (by decide +kernel) (by decide +kernel)
theorem kw_115 : Cond.code yJx4a65c_init_da8c8 cJx4a65c_init_da8c8 1 none ∈ zG := zg_mem 115 (by decide +kernel) (by decide +kernel)
theorem kw_116 : Cond.methodLink RJx4a65c 1 yJxc12de_init_da8c8 ∈ zG := zg_mem 116 (by decide +kernel) (by decide +kernel)
theorem kw_117 : Cond.instanceMethod yJxc12de_init_da8c8 ∈ zG := zg_mem 117 (by decide +kernel) (by decide +kernel)
theorem kw_118 : Cond.code yJxc12de_init_da8c8 cJxc12de_init_da8c8 1 none ∈ zG := zg_mem 118 (by decide +kernel) (by decide +kernel)
theorem kw_119 : Cond.methodLink RJxc12de 1 yJxa1e45_init_da8c8 ∈ zG := zg_mem 119 (by decide +kernel) (by decide +kernel)
theorem kw_120 : Cond.instanceMethod yJxa1e45_init_da8c8 ∈ zG := zg_mem 120 (by decide +kernel) (by decide +kernel)
theorem kw_121 : Cond.code yJxa1e45_init_da8c8 cJxa1e45_init_da8c8 1 none ∈ zG := zg_mem 121 (by decide +kernel) (by decide +kernel)
theorem kw_122 : Cond.methodLink RJxa1e45 1 objectInit ∈ zG := zg_mem 122 (by decide +kernel) (by decide +kernel)
theorem kw_123 : Cond.fieldLink RJx4a65c 39 "java/util/ArrayList" "DEFAULTCAPACITY_EMPTY_ELEMENTDATA" "[Ljava/lang/Object;" ∈ zG := zg_mem 123 (by decide +kernel) (by decide +kernel)
theorem kw_125 : Cond.fieldLink RJx4a65c 9 "java/util/ArrayList" "elementData" "[Ljava/lang/Object;" ∈ zG := zg_mem 125 (by decide +kernel) (by decide +kernel)
theorem kw_128 : Cond.fieldLink RJx4a65c 48 "java/util/ArrayList" "size" "I" ∈ zG := zg_mem 128 (by decide +kernel) (by decide +kernel)
theorem kw_129 : Cond.fieldLink RJxc12de 7 "java/util/AbstractList" "modCount" "I" ∈ zG := zg_mem 129 (by decide +kernel) (by decide +kernel)
theorem kw_140 : Cond.classLink RX4 20 RX1 ∈ zG := zg_mem 140 (by decide +kernel) (by decide +kernel)
theorem kw_141 : Cond.instantiable RX1 17 ∈ zG := zg_mem 141 (by decide +kernel) (by decide +kernel)
theorem kw_143 : Cond.instanceMethod yX1_init ∈ zG := zg_mem 143 (by decide +kernel) (by decide +kernel)
theorem kw_144 : Cond.code yX1_init cX1_init 2 none ∈ zG := zg_mem 144 (by decide +kernel) (by decide +kernel)
theorem kw_145 : Cond.methodLink RX1 3 objectInit ∈ zG := zg_mem 145 (by decide +kernel) (by decide +kernel)
theorem kw_146 : Cond.classLink RX1 25 RX3 ∈ zG := zg_mem 146 (by decide +kernel) (by decide +kernel)
theorem kw_148 : Cond.instantiable RX3 5 ∈ zG := zg_mem 148 (by decide +kernel) (by decide +kernel)
theorem kw_150 : Cond.instanceMethod yX3_init ∈ zG := zg_mem 150 (by decide +kernel) (by decide +kernel)
theorem kw_151 : Cond.code yX3_init cX3_init 1 none ∈ zG := zg_mem 151 (by decide +kernel) (by decide +kernel)
theorem kw_152 : Cond.methodLink RX3 1 objectInit ∈ zG := zg_mem 152 (by decide +kernel) (by decide +kernel)
theorem kw_179 : Cond.arrayClass .int ∈ zG := zg_mem 179 (by decide +kernel) (by decide +kernel)
theorem kw_180 : Cond.arrayClass .long ∈ zG := zg_mem 180 (by decide +kernel) (by decide +kernel)
theorem kw_181 : Cond.fieldLink RX1 9 "StatementCycle$Books" "owed" "[J" ∈ zG := zg_mem 181 (by decide +kernel) (by decide +kernel)
theorem kw_183 : Cond.fieldLink RX1 15 "StatementCycle$Books" "accrued" "[J" ∈ zG := zg_mem 183 (by decide +kernel) (by decide +kernel)
theorem kw_184 : Cond.fieldLink RX1 18 "StatementCycle$Books" "rates" "[I" ∈ zG := zg_mem 184 (by decide +kernel) (by decide +kernel)
theorem kw_185 : Cond.fieldLink RX1 22 "StatementCycle$Books" "ratesOfDay" "[I" ∈ zG := zg_mem 185 (by decide +kernel) (by decide +kernel)
theorem kw_186 : Cond.fieldLink RX1 27 "StatementCycle$Books" "statements" "[LStatementCycle$Statement;" ∈ zG := zg_mem 186 (by decide +kernel) (by decide +kernel)
theorem kw_240 : Cond.fieldLink RX4 10 "StatementCycle" "accounts" "Ljava/util/ArrayList;" ∈ zG := zg_mem 240 (by decide +kernel) (by decide +kernel)
theorem kw_241 : Cond.fieldLink RX4 16 "StatementCycle" "worths" "[I" ∈ zG := zg_mem 241 (by decide +kernel) (by decide +kernel)
theorem kw_242 : Cond.fieldLink RX4 23 "StatementCycle" "recomputed" "LStatementCycle$Books;" ∈ zG := zg_mem 242 (by decide +kernel) (by decide +kernel)
theorem kw_257 : Cond.methodLink RX4 32 yJx4a65c_size_8abf5 ∈ zG := zg_mem 257 (by decide +kernel) (by decide +kernel)
theorem kw_258 : Cond.instanceMethod yJx4a65c_size_8abf5 ∈ zG := zg_mem 258 (by decide +kernel) (by decide +kernel)
theorem kw_259 : Cond.selects RJx4a65c yJx4a65c_size_8abf5 yJx4a65c_size_8abf5 ∈ zG := zg_mem 259 (by decide +kernel) (by decide +kernel)
theorem kw_260 : Cond.code yJx4a65c_size_8abf5 cJx4a65c_size_8abf5 1 (some .int) ∈ zG := zg_mem 260 (by decide +kernel) (by decide +kernel)
theorem kw_667 : Cond.code yX4_setLimit cX4_setLimit 5 (some .int) ∈ zG := zg_mem 667 (by decide +kernel) (by decide +kernel)
theorem kw_668 : Cond.methodLink RX4 52 yX4_accountAt ∈ zG := zg_mem 668 (by decide +kernel) (by decide +kernel)
theorem kw_670 : Cond.instanceMethod yX4_accountAt ∈ zG := zg_mem 670 (by decide +kernel) (by decide +kernel)
theorem kw_671 : Cond.code yX4_accountAt cX4_accountAt 2 (some (.object "StatementCycle$Account")) ∈ zG := zg_mem 671 (by decide +kernel) (by decide +kernel)
theorem kw_672 : Cond.classLink RX4 234 "java/lang/IndexOutOfBoundsException" ∈ zG := zg_mem 672 (by decide +kernel) (by decide +kernel)
theorem kw_693 : Cond.code yX4_block cX4_block 5 (some .boolean) ∈ zG := zg_mem 693 (by decide +kernel) (by decide +kernel)
theorem kw_700 : Cond.code yX4_setRate cX4_setRate 7 (some .int) ∈ zG := zg_mem 700 (by decide +kernel) (by decide +kernel)
theorem kw_1012 : Cond.code yX4_promote cX4_promote 6 (some .int) ∈ zG := zg_mem 1012 (by decide +kernel) (by decide +kernel)
theorem kw_1028 : Cond.code yX4_buy cX4_buy 6 (some .int) ∈ zG := zg_mem 1028 (by decide +kernel) (by decide +kernel)
theorem kw_1056 : Cond.code yX4_buyOn cX4_buyOn 7 (some .int) ∈ zG := zg_mem 1056 (by decide +kernel) (by decide +kernel)
theorem kw_1063 : Cond.code yX4_abroad cX4_abroad 7 (some .int) ∈ zG := zg_mem 1063 (by decide +kernel) (by decide +kernel)
theorem kw_1070 : Cond.code yX4_pay cX4_pay 4 (some .int) ∈ zG := zg_mem 1070 (by decide +kernel) (by decide +kernel)
theorem kw_1077 : Cond.code yX4_returns cX4_returns 5 (some .int) ∈ zG := zg_mem 1077 (by decide +kernel) (by decide +kernel)
theorem kw_1091 : Cond.code yX4_dispute cX4_dispute 5 (some .int) ∈ zG := zg_mem 1091 (by decide +kernel) (by decide +kernel)
theorem kw_1106 : Cond.code yX4_settle cX4_settle 6 (some .long) ∈ zG := zg_mem 1106 (by decide +kernel) (by decide +kernel)
theorem kw_1114 : Cond.code yX4_reverse cX4_reverse 5 (some .long) ∈ zG := zg_mem 1114 (by decide +kernel) (by decide +kernel)
theorem kw_1121 : Cond.code yX4_plan cX4_plan 3 (some .int) ∈ zG := zg_mem 1121 (by decide +kernel) (by decide +kernel)
theorem kw_1132 : Cond.code yX4_redeem cX4_redeem 4 (some .int) ∈ zG := zg_mem 1132 (by decide +kernel) (by decide +kernel)
theorem kw_1146 : Cond.code yX4_owed cX4_owed 2 (some .long) ∈ zG := zg_mem 1146 (by decide +kernel) (by decide +kernel)
theorem kw_1153 : Cond.code yX4_bucket cX4_bucket 5 (some .long) ∈ zG := zg_mem 1153 (by decide +kernel) (by decide +kernel)
theorem kw_1160 : Cond.code yX4_credit cX4_credit 2 (some .long) ∈ zG := zg_mem 1160 (by decide +kernel) (by decide +kernel)
theorem kw_1168 : Cond.code yX4_statement cX4_statement 3 (some .long) ∈ zG := zg_mem 1168 (by decide +kernel) (by decide +kernel)
theorem kw_1194 : Cond.code yX4_told cX4_told 3 (some .long) ∈ zG := zg_mem 1194 (by decide +kernel) (by decide +kernel)
theorem kw_1205 : Cond.code yX4_difference cX4_difference 6 (some .long) ∈ zG := zg_mem 1205 (by decide +kernel) (by decide +kernel)
theorem kw_1212 : Cond.code yX4_least cX4_least 3 (some .long) ∈ zG := zg_mem 1212 (by decide +kernel) (by decide +kernel)
theorem kw_1219 : Cond.code yX4_interest cX4_interest 3 (some .long) ∈ zG := zg_mem 1219 (by decide +kernel) (by decide +kernel)
theorem kw_1226 : Cond.code yX4_hadGrace cX4_hadGrace 3 (some .boolean) ∈ zG := zg_mem 1226 (by decide +kernel) (by decide +kernel)
theorem kw_1233 : Cond.code yX4_paid cX4_paid 3 (some .char) ∈ zG := zg_mem 1233 (by decide +kernel) (by decide +kernel)
theorem kw_1240 : Cond.code yX4_missing cX4_missing 2 (some .long) ∈ zG := zg_mem 1240 (by decide +kernel) (by decide +kernel)
theorem kw_1248 : Cond.code yX4_missed cX4_missed 2 (some .int) ∈ zG := zg_mem 1248 (by decide +kernel) (by decide +kernel)
theorem kw_1255 : Cond.code yX4_isOff cX4_isOff 2 (some .boolean) ∈ zG := zg_mem 1255 (by decide +kernel) (by decide +kernel)
theorem kw_1262 : Cond.code yX4_points cX4_points 2 (some .long) ∈ zG := zg_mem 1262 (by decide +kernel) (by decide +kernel)
theorem kw_1269 : Cond.code yX4_events cX4_events 2 (some .int) ∈ zG := zg_mem 1269 (by decide +kernel) (by decide +kernel)
theorem kw_1276 : Cond.code yX4_kindOf cX4_kindOf 3 (some .char) ∈ zG := zg_mem 1276 (by decide +kernel) (by decide +kernel)
theorem kw_1283 : Cond.code yX4_isBack cX4_isBack 3 (some .boolean) ∈ zG := zg_mem 1283 (by decide +kernel) (by decide +kernel)
theorem kw_1290 : Cond.code yX4_sum cX4_sum 3 (some .int) ∈ zG := zg_mem 1290 (by decide +kernel) (by decide +kernel)
theorem kw_1297 : Cond.code yX4_why cX4_why 7 (some .char) ∈ zG := zg_mem 1297 (by decide +kernel) (by decide +kernel)
theorem kw_1304 : Cond.code yX4_reasons cX4_reasons 6 (some .int) ∈ zG := zg_mem 1304 (by decide +kernel) (by decide +kernel)
theorem kw_1348 : Cond.code yX8_init cX8_init 1 none ∈ zG := zg_mem 1348 (by decide +kernel) (by decide +kernel)
theorem kw_1349 : Cond.methodLink RX8 1 objectInit ∈ zG := zg_mem 1349 (by decide +kernel) (by decide +kernel)
theorem kw_1350 : Cond.classLink RX8 7 RJx4a65c ∈ zG := zg_mem 1350 (by decide +kernel) (by decide +kernel)
theorem kw_1351 : Cond.methodLink RX8 9 yJx4a65c_init_da8c8 ∈ zG := zg_mem 1351 (by decide +kernel) (by decide +kernel)
theorem kw_1352 : Cond.fieldLink RX8 10 "StatementCycleModel" "accounts" "Ljava/util/List;" ∈ zG := zg_mem 1352 (by decide +kernel) (by decide +kernel)
theorem kw_1353 : Cond.fieldLink RX8 16 "StatementCycleModel" "currencies" "[I" ∈ zG := zg_mem 1353 (by decide +kernel) (by decide +kernel)
theorem kw_1355 : Cond.fieldLink RX8 20 "StatementCycleModel" "thrown" "I" ∈ zG := zg_mem 1355 (by decide +kernel) (by decide +kernel)
theorem kw_1368 : Cond.code yX8_thrown cX8_thrown 1 (some .int) ∈ zG := zg_mem 1368 (by decide +kernel) (by decide +kernel)
theorem kw_1374 : Cond.methodLink RX8 30 yX8_isIn ∈ zG := zg_mem 1374 (by decide +kernel) (by decide +kernel)
theorem kw_1375 : Cond.static yX8_isIn ∈ zG := zg_mem 1375 (by decide +kernel) (by decide +kernel)
theorem kw_1376 : Cond.code yX8_isIn cX8_isIn 3 (some .boolean) ∈ zG := zg_mem 1376 (by decide +kernel) (by decide +kernel)
theorem kw_1377 : Cond.methodLink RX8 70 yX8_no ∈ zG := zg_mem 1377 (by decide +kernel) (by decide +kernel)
theorem kw_1379 : Cond.instanceMethod yX8_no ∈ zG := zg_mem 1379 (by decide +kernel) (by decide +kernel)
theorem kw_1380 : Cond.code yX8_no cX8_no 3 (some .boolean) ∈ zG := zg_mem 1380 (by decide +kernel) (by decide +kernel)
theorem kw_1382 : Cond.methodLink RX8 24 ⟨"java/util/List", "size", "()I"⟩ ∈ zG := zg_mem 1382 (by decide +kernel) (by decide +kernel)
theorem kw_1386 : Cond.selects RJx4a65c ⟨"java/util/List", "size", "()I"⟩ yJx4a65c_size_8abf5 ∈ zG := zg_mem 1386 (by decide +kernel) (by decide +kernel)
theorem kw_1431 : Cond.code yX8_setLimit cX8_setLimit 4 (some .int) ∈ zG := zg_mem 1431 (by decide +kernel) (by decide +kernel)
theorem kw_1432 : Cond.methodLink RX8 34 yX8_isAccount ∈ zG := zg_mem 1432 (by decide +kernel) (by decide +kernel)
theorem kw_1434 : Cond.instanceMethod yX8_isAccount ∈ zG := zg_mem 1434 (by decide +kernel) (by decide +kernel)
theorem kw_1435 : Cond.code yX8_isAccount cX8_isAccount 2 (some .boolean) ∈ zG := zg_mem 1435 (by decide +kernel) (by decide +kernel)
theorem kw_1439 : Cond.code yX8_block cX8_block 4 (some .boolean) ∈ zG := zg_mem 1439 (by decide +kernel) (by decide +kernel)
theorem kw_1443 : Cond.code yX8_setRate cX8_setRate 4 (some .int) ∈ zG := zg_mem 1443 (by decide +kernel) (by decide +kernel)
theorem kw_1555 : Cond.code yX8_promote cX8_promote 4 (some .int) ∈ zG := zg_mem 1555 (by decide +kernel) (by decide +kernel)
theorem kw_1564 : Cond.code yX8_buy cX8_buy 4 (some .int) ∈ zG := zg_mem 1564 (by decide +kernel) (by decide +kernel)
theorem kw_1787 : Cond.code yX8_buyOn cX8_buyOn 5 (some .int) ∈ zG := zg_mem 1787 (by decide +kernel) (by decide +kernel)
theorem kw_1791 : Cond.code yX8_abroad cX8_abroad 6 (some .int) ∈ zG := zg_mem 1791 (by decide +kernel) (by decide +kernel)
theorem kw_1797 : Cond.code yX8_pay cX8_pay 3 (some .int) ∈ zG := zg_mem 1797 (by decide +kernel) (by decide +kernel)
theorem kw_1801 : Cond.code yX8_returns cX8_returns 3 (some .int) ∈ zG := zg_mem 1801 (by decide +kernel) (by decide +kernel)
theorem kw_1802 : Cond.methodLink RX8 134 yX8_isEvent ∈ zG := zg_mem 1802 (by decide +kernel) (by decide +kernel)
theorem kw_1804 : Cond.instanceMethod yX8_isEvent ∈ zG := zg_mem 1804 (by decide +kernel) (by decide +kernel)
theorem kw_1805 : Cond.code yX8_isEvent cX8_isEvent 3 (some .boolean) ∈ zG := zg_mem 1805 (by decide +kernel) (by decide +kernel)
theorem kw_1813 : Cond.code yX8_dispute cX8_dispute 7 (some .int) ∈ zG := zg_mem 1813 (by decide +kernel) (by decide +kernel)
theorem kw_1827 : Cond.code yX8_settle cX8_settle 4 (some .long) ∈ zG := zg_mem 1827 (by decide +kernel) (by decide +kernel)
theorem kw_1831 : Cond.code yX8_reverse cX8_reverse 4 (some .long) ∈ zG := zg_mem 1831 (by decide +kernel) (by decide +kernel)
theorem kw_1835 : Cond.code yX8_plan cX8_plan 5 (some .int) ∈ zG := zg_mem 1835 (by decide +kernel) (by decide +kernel)
theorem kw_1839 : Cond.code yX8_redeem cX8_redeem 3 (some .int) ∈ zG := zg_mem 1839 (by decide +kernel) (by decide +kernel)
theorem kw_1871 : Cond.code yX8_owed cX8_owed 2 (some .long) ∈ zG := zg_mem 1871 (by decide +kernel) (by decide +kernel)
theorem kw_1875 : Cond.code yX8_bucket cX8_bucket 3 (some .long) ∈ zG := zg_mem 1875 (by decide +kernel) (by decide +kernel)
theorem kw_1879 : Cond.code yX8_credit cX8_credit 2 (some .long) ∈ zG := zg_mem 1879 (by decide +kernel) (by decide +kernel)
theorem kw_1883 : Cond.code yX8_statement cX8_statement 3 (some .long) ∈ zG := zg_mem 1883 (by decide +kernel) (by decide +kernel)
theorem kw_1891 : Cond.code yX8_told cX8_told 3 (some .long) ∈ zG := zg_mem 1891 (by decide +kernel) (by decide +kernel)
theorem kw_1903 : Cond.code yX8_difference cX8_difference 3 (some .long) ∈ zG := zg_mem 1903 (by decide +kernel) (by decide +kernel)
theorem kw_1907 : Cond.code yX8_least cX8_least 3 (some .long) ∈ zG := zg_mem 1907 (by decide +kernel) (by decide +kernel)
theorem kw_1911 : Cond.code yX8_interest cX8_interest 3 (some .long) ∈ zG := zg_mem 1911 (by decide +kernel) (by decide +kernel)
theorem kw_1915 : Cond.code yX8_hadGrace cX8_hadGrace 3 (some .boolean) ∈ zG := zg_mem 1915 (by decide +kernel) (by decide +kernel)
theorem kw_1919 : Cond.code yX8_paid cX8_paid 4 (some .char) ∈ zG := zg_mem 1919 (by decide +kernel) (by decide +kernel)
theorem kw_1924 : Cond.code yX8_missing cX8_missing 2 (some .long) ∈ zG := zg_mem 1924 (by decide +kernel) (by decide +kernel)
theorem kw_1929 : Cond.code yX8_missed cX8_missed 2 (some .int) ∈ zG := zg_mem 1929 (by decide +kernel) (by decide +kernel)
theorem kw_1937 : Cond.code yX8_isOff cX8_isOff 2 (some .boolean) ∈ zG := zg_mem 1937 (by decide +kernel) (by decide +kernel)
theorem kw_1941 : Cond.code yX8_points cX8_points 2 (some .long) ∈ zG := zg_mem 1941 (by decide +kernel) (by decide +kernel)
theorem kw_1945 : Cond.code yX8_events cX8_events 2 (some .int) ∈ zG := zg_mem 1945 (by decide +kernel) (by decide +kernel)
theorem kw_1949 : Cond.code yX8_kindOf cX8_kindOf 3 (some .char) ∈ zG := zg_mem 1949 (by decide +kernel) (by decide +kernel)
theorem kw_1953 : Cond.code yX8_isBack cX8_isBack 3 (some .boolean) ∈ zG := zg_mem 1953 (by decide +kernel) (by decide +kernel)
theorem kw_1957 : Cond.code yX8_sum cX8_sum 3 (some .int) ∈ zG := zg_mem 1957 (by decide +kernel) (by decide +kernel)
theorem kw_1961 : Cond.code yX8_why cX8_why 6 (some .char) ∈ zG := zg_mem 1961 (by decide +kernel) (by decide +kernel)
theorem kw_1984 : Cond.code yX8_reasons cX8_reasons 4 (some .int) ∈ zG := zg_mem 1984 (by decide +kernel) (by decide +kernel)
theorem iJx4a65c : ∀ w ∈ u_ws RJx4a65c TJx4a65c 3, w ∈ zG := fun w h => List.mem_filter.mpr ⟨zi_sub [137, 133, 135] (by decide +kernel) w h, List.all_eq_true.mp (show (u_ws RJx4a65c TJx4a65c 3).all goodWord = true by decide +kernel) w h⟩
theorem iX1 : ∀ w ∈ u_ws RX1 TX1 17, w ∈ zG := fun w h => List.mem_filter.mpr ⟨zi_sub [205, 207, 209, 211, 213, 215, 217, 219, 221, 223, 225, 227, 229, 231, 233, 235, 237] (by decide +kernel) w h, List.all_eq_true.mp (show (u_ws RX1 TX1 17).all goodWord = true by decide +kernel) w h⟩
theorem iX3 : ∀ w ∈ u_ws RX3 TX3 5, w ∈ zG := fun w h => List.mem_filter.mpr ⟨zi_sub [168, 170, 172, 174, 176] (by decide +kernel) w h, List.all_eq_true.mp (show (u_ws RX3 TX3 5).all goodWord = true by decide +kernel) w h⟩
theorem iX4 : ∀ w ∈ u_ws RX4 TX4 4, w ∈ zG := fun w h => List.mem_filter.mpr ⟨zi_sub [244, 246, 248, 250] (by decide +kernel) w h, List.all_eq_true.mp (show (u_ws RX4 TX4 4).all goodWord = true by decide +kernel) w h⟩
theorem iX8 : ∀ w ∈ u_ws RX8 TX8 4, w ∈ zG := fun w h => List.mem_filter.mpr ⟨zi_sub [1356, 1358, 1360, 1362] (by decide +kernel) w h, List.all_eq_true.mp (show (u_ws RX8 TX8 4).all goodWord = true by decide +kernel) w h⟩
theorem z_dfJx4a65c : ∀ j, j < 3 → defaultValue (tyJx4a65c j) = vp_V [.int 0, .null, .int 0] j := fun j hj => by
  rcases (show j = 0 ∨ j = 1 ∨ j = 2 by omega) with rfl | rfl | rfl <;> rfl
theorem z_dfX1 : ∀ j, j < 17 → defaultValue (tyX1 j) = vp_V [.null, .null, .null, .null, .null, .long 0, .int 0, .int 0, .int 0, .int 0, .long 0, .long 0, .long 0, .int 0, .int 0, .int 0, .int 0] j := fun j hj => by
  rcases (show j = 0 ∨ j = 1 ∨ j = 2 ∨ j = 3 ∨ j = 4 ∨ j = 5 ∨ j = 6 ∨ j = 7 ∨ j = 8 ∨ j = 9 ∨ j = 10 ∨ j = 11 ∨ j = 12 ∨ j = 13 ∨ j = 14 ∨ j = 15 ∨ j = 16 by omega) with rfl | rfl | rfl | rfl | rfl | rfl | rfl | rfl | rfl | rfl | rfl | rfl | rfl | rfl | rfl | rfl | rfl <;> rfl
theorem z_dfX3 : ∀ j, j < 5 → defaultValue (tyX3 j) = vp_V [.long 0, .long 0, .long 0, .int 0, .int 0] j := fun j hj => by
  rcases (show j = 0 ∨ j = 1 ∨ j = 2 ∨ j = 3 ∨ j = 4 by omega) with rfl | rfl | rfl | rfl | rfl <;> rfl
set_option maxRecDepth 100000 in
theorem za_X4_236 : ∀ w ∈ vx_at0 RX4 236 "java/lang/IndexOutOfBoundsException" ["java/lang/RuntimeException", "java/lang/Exception"], (w ∈ zG ∨ w ∈ zK "java/lang/IndexOutOfBoundsException") ∧ vx_ot w = true := by
  have h1 : (vx_at0 RX4 236 "java/lang/IndexOutOfBoundsException" ["java/lang/RuntimeException", "java/lang/Exception"]).all (fun w => (decide (w ∈ lw_tbl) && goodWord w || decide (w ∈ zK "java/lang/IndexOutOfBoundsException")) && vx_ot w) = true := by decide +kernel
  intro w hw
  have h2 := List.all_eq_true.mp h1 w hw
  simp only [Bool.and_eq_true, Bool.or_eq_true, decide_eq_true_eq] at h2
  exact ⟨h2.1.imp (fun h => List.mem_filter.mpr h) id, h2.2⟩
abbrev ws_Jxa1e45_init_da8c8 : List Cond := Cond.code yJxa1e45_init_da8c8 cJxa1e45_init_da8c8 1 none :: zG
abbrev ws_Jxc12de_init_da8c8 : List Cond := Cond.code yJxc12de_init_da8c8 cJxc12de_init_da8c8 1 none :: zG
abbrev ws_Jx4a65c_init_da8c8 : List Cond := Cond.code yJx4a65c_init_da8c8 cJx4a65c_init_da8c8 1 none :: zG
abbrev ws_Jx4a65c_size_8abf5 : List Cond := Cond.code yJx4a65c_size_8abf5 cJx4a65c_size_8abf5 1 (some .int) :: zG
abbrev ws_X3_init : List Cond := Cond.code yX3_init cX3_init 1 none :: zG
abbrev ws_X4_accountAt : List Cond := Cond.code yX4_accountAt cX4_accountAt 2 (some (.object "StatementCycle$Account")) :: zG
abbrev ws_X1_init : List Cond := Cond.code yX1_init cX1_init 2 none :: zG
abbrev ws_X4_init : List Cond := Cond.code yX4_init cX4_init 1 none :: zG
abbrev ws_X8_init : List Cond := Cond.code yX8_init cX8_init 1 none :: zG
abbrev ws_X8_isIn : List Cond := Cond.code yX8_isIn cX8_isIn 3 (some .boolean) :: zG
abbrev ws_X8_isAccount : List Cond := Cond.code yX8_isAccount cX8_isAccount 2 (some .boolean) :: zG
abbrev ws_X8_isEvent : List Cond := Cond.code yX8_isEvent cX8_isEvent 3 (some .boolean) :: zG
abbrev ws_X8_thrown : List Cond := Cond.code yX8_thrown cX8_thrown 1 (some .int) :: zG
abbrev ws_X8_no : List Cond := Cond.code yX8_no cX8_no 3 (some .boolean) :: zG
abbrev ws_X4_setLimit : List Cond := Cond.code yX4_setLimit cX4_setLimit 5 (some .int) :: zG
abbrev ws_X4_block : List Cond := Cond.code yX4_block cX4_block 5 (some .boolean) :: zG
abbrev ws_X4_setRate : List Cond := Cond.code yX4_setRate cX4_setRate 7 (some .int) :: zG
abbrev ws_X4_promote : List Cond := Cond.code yX4_promote cX4_promote 6 (some .int) :: zG
abbrev ws_X4_buy : List Cond := Cond.code yX4_buy cX4_buy 6 (some .int) :: zG
abbrev ws_X4_buyOn : List Cond := Cond.code yX4_buyOn cX4_buyOn 7 (some .int) :: zG
abbrev ws_X4_abroad : List Cond := Cond.code yX4_abroad cX4_abroad 7 (some .int) :: zG
abbrev ws_X4_pay : List Cond := Cond.code yX4_pay cX4_pay 4 (some .int) :: zG
abbrev ws_X4_returns : List Cond := Cond.code yX4_returns cX4_returns 5 (some .int) :: zG
abbrev ws_X4_dispute : List Cond := Cond.code yX4_dispute cX4_dispute 5 (some .int) :: zG
abbrev ws_X4_settle : List Cond := Cond.code yX4_settle cX4_settle 6 (some .long) :: zG
abbrev ws_X4_reverse : List Cond := Cond.code yX4_reverse cX4_reverse 5 (some .long) :: zG
abbrev ws_X4_plan : List Cond := Cond.code yX4_plan cX4_plan 3 (some .int) :: zG
abbrev ws_X4_redeem : List Cond := Cond.code yX4_redeem cX4_redeem 4 (some .int) :: zG
abbrev ws_X4_owed : List Cond := Cond.code yX4_owed cX4_owed 2 (some .long) :: zG
abbrev ws_X4_bucket : List Cond := Cond.code yX4_bucket cX4_bucket 5 (some .long) :: zG
abbrev ws_X4_credit : List Cond := Cond.code yX4_credit cX4_credit 2 (some .long) :: zG
abbrev ws_X4_statement : List Cond := Cond.code yX4_statement cX4_statement 3 (some .long) :: zG
abbrev ws_X4_told : List Cond := Cond.code yX4_told cX4_told 3 (some .long) :: zG
abbrev ws_X4_difference : List Cond := Cond.code yX4_difference cX4_difference 6 (some .long) :: zG
abbrev ws_X4_least : List Cond := Cond.code yX4_least cX4_least 3 (some .long) :: zG
abbrev ws_X4_interest : List Cond := Cond.code yX4_interest cX4_interest 3 (some .long) :: zG
abbrev ws_X4_hadGrace : List Cond := Cond.code yX4_hadGrace cX4_hadGrace 3 (some .boolean) :: zG
abbrev ws_X4_paid : List Cond := Cond.code yX4_paid cX4_paid 3 (some .char) :: zG
abbrev ws_X4_missing : List Cond := Cond.code yX4_missing cX4_missing 2 (some .long) :: zG
abbrev ws_X4_missed : List Cond := Cond.code yX4_missed cX4_missed 2 (some .int) :: zG
abbrev ws_X4_isOff : List Cond := Cond.code yX4_isOff cX4_isOff 2 (some .boolean) :: zG
abbrev ws_X4_points : List Cond := Cond.code yX4_points cX4_points 2 (some .long) :: zG
abbrev ws_X4_events : List Cond := Cond.code yX4_events cX4_events 2 (some .int) :: zG
abbrev ws_X4_kindOf : List Cond := Cond.code yX4_kindOf cX4_kindOf 3 (some .char) :: zG
abbrev ws_X4_isBack : List Cond := Cond.code yX4_isBack cX4_isBack 3 (some .boolean) :: zG
abbrev ws_X4_sum : List Cond := Cond.code yX4_sum cX4_sum 3 (some .int) :: zG
abbrev ws_X4_why : List Cond := Cond.code yX4_why cX4_why 7 (some .char) :: zG
abbrev ws_X4_reasons : List Cond := Cond.code yX4_reasons cX4_reasons 6 (some .int) :: zG
abbrev ws_X8_setLimit : List Cond := Cond.code yX8_setLimit cX8_setLimit 4 (some .int) :: zG
abbrev ws_X8_block : List Cond := Cond.code yX8_block cX8_block 4 (some .boolean) :: zG
abbrev ws_X8_setRate : List Cond := Cond.code yX8_setRate cX8_setRate 4 (some .int) :: zG
abbrev ws_X8_promote : List Cond := Cond.code yX8_promote cX8_promote 4 (some .int) :: zG
abbrev ws_X8_buy : List Cond := Cond.code yX8_buy cX8_buy 4 (some .int) :: zG
abbrev ws_X8_buyOn : List Cond := Cond.code yX8_buyOn cX8_buyOn 5 (some .int) :: zG
abbrev ws_X8_abroad : List Cond := Cond.code yX8_abroad cX8_abroad 6 (some .int) :: zG
abbrev ws_X8_pay : List Cond := Cond.code yX8_pay cX8_pay 3 (some .int) :: zG
abbrev ws_X8_returns : List Cond := Cond.code yX8_returns cX8_returns 3 (some .int) :: zG
abbrev ws_X8_dispute : List Cond := Cond.code yX8_dispute cX8_dispute 7 (some .int) :: zG
abbrev ws_X8_settle : List Cond := Cond.code yX8_settle cX8_settle 4 (some .long) :: zG
abbrev ws_X8_reverse : List Cond := Cond.code yX8_reverse cX8_reverse 4 (some .long) :: zG
abbrev ws_X8_plan : List Cond := Cond.code yX8_plan cX8_plan 5 (some .int) :: zG
abbrev ws_X8_redeem : List Cond := Cond.code yX8_redeem cX8_redeem 3 (some .int) :: zG
abbrev ws_X8_owed : List Cond := Cond.code yX8_owed cX8_owed 2 (some .long) :: zG
abbrev ws_X8_bucket : List Cond := Cond.code yX8_bucket cX8_bucket 3 (some .long) :: zG
abbrev ws_X8_credit : List Cond := Cond.code yX8_credit cX8_credit 2 (some .long) :: zG
abbrev ws_X8_statement : List Cond := Cond.code yX8_statement cX8_statement 3 (some .long) :: zG
abbrev ws_X8_told : List Cond := Cond.code yX8_told cX8_told 3 (some .long) :: zG
abbrev ws_X8_difference : List Cond := Cond.code yX8_difference cX8_difference 3 (some .long) :: zG
abbrev ws_X8_least : List Cond := Cond.code yX8_least cX8_least 3 (some .long) :: zG
abbrev ws_X8_interest : List Cond := Cond.code yX8_interest cX8_interest 3 (some .long) :: zG
abbrev ws_X8_hadGrace : List Cond := Cond.code yX8_hadGrace cX8_hadGrace 3 (some .boolean) :: zG
abbrev ws_X8_paid : List Cond := Cond.code yX8_paid cX8_paid 4 (some .char) :: zG
abbrev ws_X8_missing : List Cond := Cond.code yX8_missing cX8_missing 2 (some .long) :: zG
abbrev ws_X8_missed : List Cond := Cond.code yX8_missed cX8_missed 2 (some .int) :: zG
abbrev ws_X8_isOff : List Cond := Cond.code yX8_isOff cX8_isOff 2 (some .boolean) :: zG
abbrev ws_X8_points : List Cond := Cond.code yX8_points cX8_points 2 (some .long) :: zG
abbrev ws_X8_events : List Cond := Cond.code yX8_events cX8_events 2 (some .int) :: zG
abbrev ws_X8_kindOf : List Cond := Cond.code yX8_kindOf cX8_kindOf 3 (some .char) :: zG
abbrev ws_X8_isBack : List Cond := Cond.code yX8_isBack cX8_isBack 3 (some .boolean) :: zG
abbrev ws_X8_sum : List Cond := Cond.code yX8_sum cX8_sum 3 (some .int) :: zG
abbrev ws_X8_why : List Cond := Cond.code yX8_why cX8_why 6 (some .char) :: zG
abbrev ws_X8_reasons : List Cond := Cond.code yX8_reasons cX8_reasons 4 (some .int) :: zG
def zW : Nat → Int32 := upd (upd (upd (upd (fun _ => 0) (0 : Int32).toNatClampNeg 1000) (1 : Int32).toNatClampNeg 1000) (2 : Int32).toNatClampNeg 1000) (3 : Int32).toNatClampNeg 1000
theorem zi_none (a : Int32) : a < 0 ∨ (-1 : Int32) < a := by
  have h1 := Int32.lt_iff_toInt_lt (x := a) (y := 0)
  have h2 := Int32.lt_iff_toInt_lt (x := -1) (y := a)
  have e0 : ((0 : Int32)).toInt = 0 := by decide
  have e1 : ((-1 : Int32)).toInt = -1 := by decide
  rw [e0] at h1
  rw [e1] at h2
  by_cases h : a.toInt < 0
  · exact Or.inl (h1.mpr h)
  · exact Or.inr (h2.mpr (by omega))
end
section
set_option maxHeartbeats 4000000 in
set_option maxRecDepth 100000 in
/-- AbstractCollection() -/
theorem c_AC_init (l : Launch) (dC : Nat → ClassId) (dI : Nat → Nat → Nat) (sz t : Nat) (h0 : Nat) (a : Int32) (b : Value) (k : Int32) : Met l yJxa1e45_init_da8c8 ws_Jxa1e45_init_da8c8 ({ frames := 1, cells := 0, slots := 0, locals := 12 }) (zA dC dI [(h0, .inr (0, [.int a, b, .int k]))] [] sz t [.ref h0]) (va_Sv (fun _ => True)) 0 0 (fun _ => False) := by
  refine Met.ofW (cc := cJxa1e45_init_da8c8) (maxL := 1) (ret := none) (by decide) rfl ?_
  intro p e s m args below meth c s₁ B hml hv
  obtain ⟨rfl, hsz, hP, hK, hD0, hQ⟩ := hv
  have hx := B.exec
  have hb := B.bytes
  have hr := B.returns
  have hts : ∀ w ∈ zG, w.before _ s = true := fun w h => atoms_spec (ws := ws_Jxa1e45_init_da8c8) B.pre w (List.mem_cons_of_mem _ h)
  have hown : s.vm.findClass RJxa1e45 = some m.cls := findClass_of_methodNamed B.named
  have hlocks := B.notSynchronized
  have hin : meth.name = "<init>" := (name_of_methodNamed B.named B.method).1
  subst hsz
  have hD := hD0.self (sz := s.heap.size)
  generalize hAe : va_A [(h0, .inr (0, [.int a, b, .int k]))] s.heap.size = A at hD hQ
  have hA : ∀ q : Nat, s.heap.size ≤ q → A q := fun q h => by rw [← hAe]; exact Or.inr h
  have hS : va_S A s.heap s.heap [] := va_S.rf
  have hP : va_P (dC, dI) zc [(h0, .inr (0, [.int a, b, .int k]))] s.heap := hP
  have hl := lv_entry ([.ref h0]) (n := 1) (Nat.le_of_ble_eq_true rfl)
  rw [lg_entry_eq]
  generalize (lg_sl ([.ref h0]) ++ List.replicate (1 - (lg_sl ([.ref h0])).length) Slot.unset).toArray = ls at hl ⊢
  have hl : lv_has ls 1 [(0, .ref h0)] := hl
  refine lv_aload_n hx hb dJxa1e45_init_da8c8_0 rfl (lv_at hl 0 rfl) ?_
  refine W.objInit hx hb hown (hts _ kw_122) (hts _ kw_109) (hts _ kw_110) rfl (by rw [hml]; exact hl.1) rfl dJxa1e45_init_da8c8_1 (Nat.le_of_ble_eq_true rfl) (Nat.le_of_ble_eq_true rfl) ?_
  refine W.eq (g2 := F0 m 4 ls []) rfl ?_
  exact W.vret hx hb hr (fun t ht hW => ⟨rfl, trivial, ht⟩) (fun q hq => absurd hq List.not_mem_nil) dJxa1e45_init_da8c8_4
set_option maxHeartbeats 4000000 in
set_option maxRecDepth 100000 in
/-- AbstractList(): modCount is 0 -/
theorem c_AbL_init (l : Launch) (dC : Nat → ClassId) (dI : Nat → Nat → Nat) (sz t : Nat) (h0 : Nat) (a : Int32) (b : Value) (k : Int32) : Met l yJxc12de_init_da8c8 ws_Jxc12de_init_da8c8 ({ frames := 2, cells := 0, slots := 0, locals := 32 }) (zA dC dI [(h0, .inr (0, [.int a, b, .int k]))] [] sz t [.ref h0]) (va_Qv (fun _ : Unit => True) (fun _ t9 => zB dC dI (va_A [(h0, .inr (0, [.int a, b, .int k]))] sz) [(h0, .inr (0, [.int 0, b, .int k]))] [] t9) (va_A [(h0, .inr (0, [.int a, b, .int k]))] sz)) 0 0 (va_A [(h0, .inr (0, [.int a, b, .int k]))] sz) := by
  refine Met.ofW (cc := cJxc12de_init_da8c8) (maxL := 1) (ret := none) (by decide) rfl ?_
  intro p e s m args below meth c s₁ B hml hv
  obtain ⟨rfl, hsz, hP, hK, hD0, hQ⟩ := hv
  have hx := B.exec
  have hb := B.bytes
  have hr := B.returns
  have hts : ∀ w ∈ zG, w.before _ s = true := fun w h => atoms_spec (ws := ws_Jxc12de_init_da8c8) B.pre w (List.mem_cons_of_mem _ h)
  have hown : s.vm.findClass RJxc12de = some m.cls := findClass_of_methodNamed B.named
  have hlocks := B.notSynchronized
  have hin : meth.name = "<init>" := (name_of_methodNamed B.named B.method).1
  subst hsz
  have hD := hD0.self (sz := s.heap.size)
  generalize hAe : va_A [(h0, .inr (0, [.int a, b, .int k]))] s.heap.size = A at hD hQ ⊢
  have hA : ∀ q : Nat, s.heap.size ≤ q → A q := fun q h => by rw [← hAe]; exact Or.inr h
  have hS : va_S A s.heap s.heap [] := va_S.rf
  have hP : va_P (dC, dI) zc [(h0, .inr (0, [.int a, b, .int k]))] s.heap := hP
  have hl := lv_entry ([.ref h0]) (n := 1) (Nat.le_of_ble_eq_true rfl)
  rw [lg_entry_eq]
  generalize (lg_sl ([.ref h0]) ++ List.replicate (1 - (lg_sl ([.ref h0])).length) Slot.unset).toArray = ls at hl ⊢
  have hl : lv_has ls 1 [(0, .ref h0)] := hl
  refine lv_aload_n hx hb dJxc12de_init_da8c8_0 rfl (lv_at hl 0 rfl) ?_
  refine va_csv (W.runI (As := []) (rest := []) ⟨hx, hb, hml, hown, hts⟩ (c_AC_init l dC dI s.heap.size t h0 a b k) (cwI 0 hts (zg_c kw_121) rfl rfl rfl (hts _ kw_65) (hts _ kw_119) (hts _ kw_120) rfl (by decide +kernel) ⟨Nat.le_of_ble_eq_true rfl, Nat.le_of_ble_eq_true rfl⟩) ⟨zA_blind, zA_pre hP hD hS hK hQ hA [0] rfl rfl (by decide) [] rfl⟩ rfl rfl hl.1 rfl (lv_room (Nat.le_of_ble_eq_true rfl)) dJxc12de_init_da8c8_1 ⟨zl_b rfl, zl_b rfl⟩) (fun _ => ?_)
  refine lv_aload_n hx hb dJxc12de_init_da8c8_4 rfl (lv_at hl 0 rfl) ?_
  refine lv_iconst (v := 0) hx hb dJxc12de_init_da8c8_5 (by decide) ?_
  refine va_put (D := (dC, dI)) (ci := 0) (v := .int 0) (ty := .int) (C := RJx4a65c) (T := TJx4a65c) (N := 3) hx hb hts iJx4a65c tyJx4a65c tyJx4a65c_ok nmJx4a65c hown hK hP hD hS 0 rfl rfl 0 (by decide) (hts _ kw_129) (fun _ h9 => h9) rfl (by decide +kernel) rfl rfl (Nat.le_of_ble_eq_true rfl) dJxc12de_init_da8c8_6 (fun H locs hP hD hS => ?_)
  have hP : va_P (dC, dI) zc [(h0, .inr (0, [.int 0, b, .int k]))] H := hP
  have hD : va_D A [(h0, .inr (0, [.int 0, b, .int k]))] := hD
  have hP9 := hP.sub (ws' := [(h0, .inr (0, [.int 0, b, .int k]))]) [0] rfl
  have hD9 := hD.sub (ws' := [(h0, .inr (0, [.int 0, b, .int k]))]) [0] (by decide) rfl
  have hK9 := hK.sub (tys' := []) [] rfl
  exact W.vret hx hb hr (fun t ht hW => ⟨⟨(), rfl, trivial, by rw [ht]; exact hP9, va_K.moved hW.alike hK9, hD9⟩, hS.F ht⟩) hS.2.2 dJxc12de_init_da8c8_9
set_option maxHeartbeats 4000000 in
set_option maxRecDepth 100000 in
/-- ArrayList(): the empty row of the class -/
theorem c_AL_init (l : Launch) (dC : Nat → ClassId) (dI : Nat → Nat → Nat) (sz t : Nat) (h0 : Nat) : Met l yJx4a65c_init_da8c8 ws_Jx4a65c_init_da8c8 ({ frames := 3, cells := 0, slots := 0, locals := 52 }) (zA dC dI [(h0, .inr (0, [.int 0, .null, .int 0]))] [] sz t [.ref h0]) (va_Qv (fun _ : Unit => True) (fun _ t9 => zB dC dI (va_A [(h0, .inr (0, [.int 0, .null, .int 0]))] sz) [(h0, .inr (0, [.int 0, .ref t, .int 0]))] [] t9) (va_A [(h0, .inr (0, [.int 0, .null, .int 0]))] sz)) 0 0 (va_A [(h0, .inr (0, [.int 0, .null, .int 0]))] sz) := by
  refine Met.ofW (cc := cJx4a65c_init_da8c8) (maxL := 1) (ret := none) (by decide) rfl ?_
  intro p e s m args below meth c s₁ B hml hv
  obtain ⟨rfl, hsz, hP, hK, hD0, hQ⟩ := hv
  have hx := B.exec
  have hb := B.bytes
  have hr := B.returns
  have hts : ∀ w ∈ zG, w.before _ s = true := fun w h => atoms_spec (ws := ws_Jx4a65c_init_da8c8) B.pre w (List.mem_cons_of_mem _ h)
  have hown : s.vm.findClass RJx4a65c = some m.cls := findClass_of_methodNamed B.named
  have hlocks := B.notSynchronized
  have hin : meth.name = "<init>" := (name_of_methodNamed B.named B.method).1
  subst hsz
  have hD := hD0.self (sz := s.heap.size)
  generalize hAe : va_A [(h0, .inr (0, [.int 0, .null, .int 0]))] s.heap.size = A at hD hQ ⊢
  have hA : ∀ q : Nat, s.heap.size ≤ q → A q := fun q h => by rw [← hAe]; exact Or.inr h
  have hS : va_S A s.heap s.heap [] := va_S.rf
  have hP : va_P (dC, dI) zc [(h0, .inr (0, [.int 0, .null, .int 0]))] s.heap := hP
  have hl := lv_entry ([.ref h0]) (n := 1) (Nat.le_of_ble_eq_true rfl)
  rw [lg_entry_eq]
  generalize (lg_sl ([.ref h0]) ++ List.replicate (1 - (lg_sl ([.ref h0])).length) Slot.unset).toArray = ls at hl ⊢
  have hl : lv_has ls 1 [(0, .ref h0)] := hl
  refine lv_aload_n hx hb dJx4a65c_init_da8c8_0 rfl (lv_at hl 0 rfl) ?_
  have hFc := va_free (wc := [(h0, .inr (0, [.int 0, .null, .int 0]))]) hD hS hA [0] rfl
  refine va_callv (va_runI (As := []) (rest := []) ⟨hx, hb, hml, hown, hts⟩ (c_AbL_init l dC dI s.heap.size t h0 0 .null 0) (cwI 0 hts (zg_c kw_118) rfl rfl rfl (hts _ kw_66) (hts _ kw_116) (hts _ kw_117) rfl (by decide +kernel) ⟨Nat.le_of_ble_eq_true rfl, Nat.le_of_ble_eq_true rfl⟩) ⟨zA_blind, zA_pre hP hD hS hK hQ hA [0] rfl rfl (by decide) [] rfl⟩ rfl rfl hl.1 rfl (lv_room (Nat.le_of_ble_eq_true rfl)) dJx4a65c_init_da8c8_1 ⟨zl_b rfl, zl_b rfl⟩) hS (fun q _ h => hFc q h) hFc (fun u t9 H1 locs ht hvm hw hB hz1 hk1 hS => ?_)
  obtain ⟨hP1, hK1, hD1⟩ := hB
  rw [ht] at hP1
  have hK1 := va_K.moved hvm.symm hK1
  obtain ⟨hP, hD⟩ := va_join (wr := []) (w1 := [(h0, .inr (0, [.int 0, .null, .int 0]))]) hP hD [0] [] rfl rfl (by decide) (by decide) hk1 hFc hP1 hD1
  have hK := (hK.sub (tys' := []) [] rfl).app hK1
  generalize H1 = H at hP hS ⊢
  have hP : va_P (dC, dI) zc [(h0, .inr (0, [.int 0, .null, .int 0]))] H := hP
  have hD : va_D A [(h0, .inr (0, [.int 0, .null, .int 0]))] := hD
  have hK : va_K (dC, dI) zc [] s := hK
  refine lv_aload_n hx hb dJx4a65c_init_da8c8_4 rfl (lv_at hl 0 rfl) ?_
  refine va_gets hx hb hQ.2.2.2.1 hS hown (hts _ kw_123) (fun _ h9 => h9) dJx4a65c_init_da8c8_5 ?_
  refine va_put (D := (dC, dI)) (ci := 0) (v := .ref t) (ty := .array (.object "java/lang/Object")) (C := RJx4a65c) (T := TJx4a65c) (N := 3) hx hb hts iJx4a65c tyJx4a65c tyJx4a65c_ok nmJx4a65c hown hK hP hD hS 0 rfl rfl 1 (by decide) (hts _ kw_125) (fun _ h9 => h9) rfl (by decide +kernel) rfl rfl (Nat.le_of_ble_eq_true rfl) dJx4a65c_init_da8c8_8 (fun H locs hP hD hS => ?_)
  have hP : va_P (dC, dI) zc [(h0, .inr (0, [.int 0, .ref t, .int 0]))] H := hP
  have hD : va_D A [(h0, .inr (0, [.int 0, .ref t, .int 0]))] := hD
  have hP9 := hP.sub (ws' := [(h0, .inr (0, [.int 0, .ref t, .int 0]))]) [0] rfl
  have hD9 := hD.sub (ws' := [(h0, .inr (0, [.int 0, .ref t, .int 0]))]) [0] (by decide) rfl
  have hK9 := hK.sub (tys' := []) [] rfl
  exact W.vret hx hb hr (fun t ht hW => ⟨⟨(), rfl, trivial, by rw [ht]; exact hP9, va_K.moved hW.alike hK9, hD9⟩, hS.F ht⟩) hS.2.2 dJx4a65c_init_da8c8_11
set_option maxHeartbeats 4000000 in
set_option maxRecDepth 100000 in
/-- size() -/
theorem c_AL_size (l : Launch) (dC : Nat → ClassId) (dI : Nat → Nat → Nat) (sz t : Nat) (h0 : Nat) (a : Int32) (b : Value) (k : Int32) : Met l yJx4a65c_size_8abf5 ws_Jx4a65c_size_8abf5 ({ frames := 1, cells := 0, slots := 0, locals := 12 }) (zA dC dI [(h0, .inr (0, [.int a, b, .int k]))] [] sz t [.ref h0]) (vp_Si (fun r => r = k)) 0 0 (fun _ => False) := by
  refine Met.ofW (cc := cJx4a65c_size_8abf5) (maxL := 1) (ret := (some .int)) (by decide) rfl ?_
  intro p e s m args below meth c s₁ B hml hv
  obtain ⟨rfl, hsz, hP, hK, hD0, hQ⟩ := hv
  have hx := B.exec
  have hb := B.bytes
  have hr := B.returns
  have hts : ∀ w ∈ zG, w.before _ s = true := fun w h => atoms_spec (ws := ws_Jx4a65c_size_8abf5) B.pre w (List.mem_cons_of_mem _ h)
  have hown : s.vm.findClass RJx4a65c = some m.cls := findClass_of_methodNamed B.named
  have hlocks := B.notSynchronized
  subst hsz
  have hD := hD0.self (sz := s.heap.size)
  generalize hAe : va_A [(h0, .inr (0, [.int a, b, .int k]))] s.heap.size = A at hD hQ
  have hA : ∀ q : Nat, s.heap.size ≤ q → A q := fun q h => by rw [← hAe]; exact Or.inr h
  have hS : va_S A s.heap s.heap [] := va_S.rf
  have hP : va_P (dC, dI) zc [(h0, .inr (0, [.int a, b, .int k]))] s.heap := hP
  have hl := lv_entry ([.ref h0]) (n := 1) (Nat.le_of_ble_eq_true rfl)
  rw [lg_entry_eq]
  generalize (lg_sl ([.ref h0]) ++ List.replicate (1 - (lg_sl ([.ref h0])).length) Slot.unset).toArray = ls at hl ⊢
  have hl : lv_has ls 1 [(0, .ref h0)] := hl
  refine lv_aload_n hx hb dJx4a65c_size_8abf5_0 rfl (lv_at hl 0 rfl) ?_
  refine va_get (D := (dC, dI)) (ci := 0) (v := .int k) (C := RJx4a65c) (T := TJx4a65c) (N := 3) hx hb hts iJx4a65c hown hK hP 0 rfl rfl 2 (by decide) (hts _ kw_128) (fun _ h9 => h9) rfl dJx4a65c_size_8abf5_1 ?_
  exact W.iret hx hb hr (fun t ht hW => ⟨_, rfl, rfl, ht⟩) (fun q hq => absurd hq List.not_mem_nil) dJx4a65c_size_8abf5_4
set_option maxHeartbeats 4000000 in
set_option maxRecDepth 100000 in
/-- Statement() -/
theorem c_St_init (l : Launch) (dC : Nat → ClassId) (dI : Nat → Nat → Nat) (sz t : Nat) (h0 : Nat) : Met l yX3_init ws_X3_init ({ frames := 1, cells := 0, slots := 0, locals := 12 }) (zA dC dI [(h0, .inr (4, [.long 0, .long 0, .long 0, .int 0, .int 0]))] [] sz t [.ref h0]) (va_Qv (fun _ : Unit => True) (fun _ t9 => zB dC dI (va_A [(h0, .inr (4, [.long 0, .long 0, .long 0, .int 0, .int 0]))] sz) [(h0, .inr (4, [.long 0, .long 0, .long 0, .int 0, .int 0]))] [] t9) (va_A [(h0, .inr (4, [.long 0, .long 0, .long 0, .int 0, .int 0]))] sz)) 0 0 (va_A [(h0, .inr (4, [.long 0, .long 0, .long 0, .int 0, .int 0]))] sz) := by
  refine Met.ofW (cc := cX3_init) (maxL := 1) (ret := none) (by decide) rfl ?_
  intro p e s m args below meth c s₁ B hml hv
  obtain ⟨rfl, hsz, hP, hK, hD0, hQ⟩ := hv
  have hx := B.exec
  have hb := B.bytes
  have hr := B.returns
  have hts : ∀ w ∈ zG, w.before _ s = true := fun w h => atoms_spec (ws := ws_X3_init) B.pre w (List.mem_cons_of_mem _ h)
  have hown : s.vm.findClass RX3 = some m.cls := findClass_of_methodNamed B.named
  have hlocks := B.notSynchronized
  have hin : meth.name = "<init>" := (name_of_methodNamed B.named B.method).1
  subst hsz
  have hD := hD0.self (sz := s.heap.size)
  generalize hAe : va_A [(h0, .inr (4, [.long 0, .long 0, .long 0, .int 0, .int 0]))] s.heap.size = A at hD hQ ⊢
  have hA : ∀ q : Nat, s.heap.size ≤ q → A q := fun q h => by rw [← hAe]; exact Or.inr h
  have hS : va_S A s.heap s.heap [] := va_S.rf
  have hP : va_P (dC, dI) zc [(h0, .inr (4, [.long 0, .long 0, .long 0, .int 0, .int 0]))] s.heap := hP
  have hl := lv_entry ([.ref h0]) (n := 1) (Nat.le_of_ble_eq_true rfl)
  rw [lg_entry_eq]
  generalize (lg_sl ([.ref h0]) ++ List.replicate (1 - (lg_sl ([.ref h0])).length) Slot.unset).toArray = ls at hl ⊢
  have hl : lv_has ls 1 [(0, .ref h0)] := hl
  refine lv_aload_n hx hb dX3_init_0 rfl (lv_at hl 0 rfl) ?_
  refine W.objInit hx hb hown (hts _ kw_152) (hts _ kw_109) (hts _ kw_110) rfl (by rw [hml]; exact hl.1) rfl dX3_init_1 (Nat.le_of_ble_eq_true rfl) (Nat.le_of_ble_eq_true rfl) ?_
  refine W.eq (g2 := F0 m 4 ls []) rfl ?_
  have hP9 := hP.sub (ws' := [(h0, .inr (4, [.long 0, .long 0, .long 0, .int 0, .int 0]))]) [0] rfl
  have hD9 := hD.sub (ws' := [(h0, .inr (4, [.long 0, .long 0, .long 0, .int 0, .int 0]))]) [0] (by decide) rfl
  have hK9 := hK.sub (tys' := []) [] rfl
  exact W.vret hx hb hr (fun t ht hW => ⟨⟨(), rfl, trivial, by rw [ht]; exact hP9, va_K.moved hW.alike hK9, hD9⟩, hS.F ht⟩) hS.2.2 dX3_init_4
set_option maxHeartbeats 4000000 in
set_option maxRecDepth 100000 in
/-- accountAt: there is none -/
theorem c_accountAt (l : Launch) (hst : l.stackTraces = false) (dC : Nat → ClassId) (dI : Nat → Nat → Nat) (sz t : Nat) (h0 ac : Nat) (w0 b0 : Value) (dd a : Int32) (ed : Value) : vx_Met l yX4_accountAt ws_X4_accountAt ({ frames := 6, cells := 1, slots := 6, locals := 99 }) (zA dC dI [(h0, .inr (5, [.ref ac, w0, b0, .int dd])), (ac, .inr (0, [.int 0, ed, .int 0]))] [] sz t [.ref h0, .int a]) (va_Qq (fun _ (_ : Unit) => False) (fun _ _ => True) (fun _ => False)) (vx_X (fun _ : Unit => True) (fun E _ _ => E = "java/lang/IndexOutOfBoundsException") (fun q => sz ≤ q)) 1 6 (fun q => sz ≤ q) := by
  refine vx_ofW (cc := cX4_accountAt) (maxL := 2) (ret := (some (.object "StatementCycle$Account"))) (by decide) rfl ?_
  intro p e s m args below meth c s₁ B hml htab hv
  obtain ⟨rfl, hsz, hP, hK, hD0, hQ⟩ := hv
  have hx := B.exec
  have hb := B.bytes
  have hr := B.returns
  have hts : ∀ w ∈ zG, w.before _ s = true := fun w h => atoms_spec (ws := ws_X4_accountAt) B.pre w (List.mem_cons_of_mem _ h)
  have hown : s.vm.findClass RX4 = some m.cls := findClass_of_methodNamed B.named
  have hlocks := B.notSynchronized
  subst hsz
  have hD := hD0.self (sz := s.heap.size)
  generalize hAe : va_A [(h0, .inr (5, [.ref ac, w0, b0, .int dd])), (ac, .inr (0, [.int 0, ed, .int 0]))] s.heap.size = A at hD hQ
  have hA : ∀ q : Nat, s.heap.size ≤ q → A q := fun q h => by rw [← hAe]; exact Or.inr h
  have hS : va_S A s.heap s.heap [] := va_S.rf
  have hSn : va_S (fun q => s.heap.size ≤ q) s.heap s.heap [] := va_S.rf
  have hP : va_P (dC, dI) zc [(h0, .inr (5, [.ref ac, w0, b0, .int dd])), (ac, .inr (0, [.int 0, ed, .int 0]))] s.heap := hP
  have hl := lv_entry ([.ref h0, .int a]) (n := 2) (Nat.le_of_ble_eq_true rfl)
  rw [lg_entry_eq]
  generalize (lg_sl ([.ref h0, .int a]) ++ List.replicate (2 - (lg_sl ([.ref h0, .int a])).length) Slot.unset).toArray = ls at hl ⊢
  have hl : lv_has ls 2 [(0, .ref h0), (1, .int a)] := hl
  refine lv_iload_n hx hb dX4_accountAt_0 rfl (lv_at hl 1 rfl) ?_
  refine lv_if_lt (tgt := 15) hx hb dX4_accountAt_1 (by decide) (fun c_1 => ?_) (fun c_1 => ?_)
  · exact vx_throw0 (own := RX4) (cls := "java/lang/IndexOutOfBoundsException") (names := ["java/lang/RuntimeException", "java/lang/Exception"]) (A := fun q => s.heap.size ≤ q) hx hb hst hown (by decide +kernel) (by decide +kernel) (hts _ kw_672) (hts _ kw_84) (zK_hat za_X4_236 hts (zT_kI hQ.1) hQ.1) (List.forall_mem_cons.mpr ⟨rfl, List.forall_mem_cons.mpr ⟨rfl, fun w h => (za_X4_236 w h).2⟩⟩) (vx_Zq.narrow hQ.2.1 hA) (vx_Zq.narrow hQ.2.2.1 hA) hSn (by rw [hml]; exact hl.1) dX4_accountAt_15 dX4_accountAt_18 dX4_accountAt_19 dX4_accountAt_22 (fun x hx => (htab x hx).elim) (zl_b rfl) (zl_b rfl) (zl_b rfl) (zl_b rfl) hlocks (fun t hvm hz hk => ⟨(), trivial, rfl, hz, fun q h _ => hk q h⟩) (fun q hq => absurd hq List.not_mem_nil) (zl_b rfl) (zl_b rfl)
  · refine lv_iload_n hx hb dX4_accountAt_4 rfl (lv_at hl 1 rfl) ?_
    refine lv_aload_n hx hb dX4_accountAt_5 rfl (lv_at hl 0 rfl) ?_
    refine va_get (D := (dC, dI)) (ci := 5) (v := .ref ac) (C := RX4) (T := TX4) (N := 4) hx hb hts iX4 hown hK hP 0 rfl rfl 0 (by decide) (hts _ kw_240) (fun _ h9 => h9) rfl dX4_accountAt_6 ?_
    refine vp_callSi (W.runV (As := []) (rest := [.int a]) ⟨hx, hb, hml, hown, hts⟩ (c_AL_size l dC dI s.heap.size t ac 0 ed 0) (cwV 0 hts (zg_V kw_257 kw_258 kw_259 kw_67 kw_260) rfl rfl rfl (by decide +kernel) ⟨Nat.le_of_ble_eq_true rfl, Nat.le_of_ble_eq_true rfl⟩) ⟨zA_blind, va_recv hK hP (ci := 0) (q0 := 1) rfl rfl, zA_pre hP hD hS hK hQ hA [1] rfl rfl (by decide) [] rfl⟩ rfl rfl hl.1 rfl (lv_room (Nat.le_of_ble_eq_true rfl)) dX4_accountAt_9 ⟨zl_b rfl, zl_b rfl⟩) (fun r hr => ?_)
    subst hr
    refine lv_icmp_lt (tgt := 23) hx hb dX4_accountAt_12 (by decide) (fun c_2 => absurd c_2 c_1) (fun c_2 => ?_)
    exact vx_throw0 (own := RX4) (cls := "java/lang/IndexOutOfBoundsException") (names := ["java/lang/RuntimeException", "java/lang/Exception"]) (A := fun q => s.heap.size ≤ q) hx hb hst hown (by decide +kernel) (by decide +kernel) (hts _ kw_672) (hts _ kw_84) (zK_hat za_X4_236 hts (zT_kI hQ.1) hQ.1) (List.forall_mem_cons.mpr ⟨rfl, List.forall_mem_cons.mpr ⟨rfl, fun w h => (za_X4_236 w h).2⟩⟩) (vx_Zq.narrow hQ.2.1 hA) (vx_Zq.narrow hQ.2.2.1 hA) hSn (by rw [hml]; exact hl.1) dX4_accountAt_15 dX4_accountAt_18 dX4_accountAt_19 dX4_accountAt_22 (fun x hx => (htab x hx).elim) (zl_b rfl) (zl_b rfl) (zl_b rfl) (zl_b rfl) hlocks (fun t hvm hz hk => ⟨(), trivial, rfl, hz, fun q h _ => hk q h⟩) (fun q hq => absurd hq List.not_mem_nil) (zl_b rfl) (zl_b rfl)
end
section
set_option maxHeartbeats 4000000 in
set_option maxRecDepth 100000 in
/-- Books(): what it holds is not told -/
theorem c_Bk_init (l : Launch) (dC : Nat → ClassId) (dI : Nat → Nat → Nat) (sz t : Nat) (h0 : Nat) : Met l yX1_init ws_X1_init ({ frames := 2, cells := 17, slots := 84, locals := 32 }) (zA dC dI [(h0, .inr (3, [.null, .null, .null, .null, .null, .long 0, .int 0, .int 0, .int 0, .int 0, .long 0, .long 0, .long 0, .int 0, .int 0, .int 0, .int 0]))] [] sz t [.ref h0]) (va_Qv (fun _ : Unit => True) (fun _ t9 => zB dC dI (va_A [(h0, .inr (3, [.null, .null, .null, .null, .null, .long 0, .int 0, .int 0, .int 0, .int 0, .long 0, .long 0, .long 0, .int 0, .int 0, .int 0, .int 0]))] sz) [] [] t9) (va_A [(h0, .inr (3, [.null, .null, .null, .null, .null, .long 0, .int 0, .int 0, .int 0, .int 0, .long 0, .long 0, .long 0, .int 0, .int 0, .int 0, .int 0]))] sz)) 17 84 (va_A [(h0, .inr (3, [.null, .null, .null, .null, .null, .long 0, .int 0, .int 0, .int 0, .int 0, .long 0, .long 0, .long 0, .int 0, .int 0, .int 0, .int 0]))] sz) := by
  refine Met.ofW (cc := cX1_init) (maxL := 2) (ret := none) (by decide) rfl ?_
  intro p e s m args below meth c s₁ B hml hv
  obtain ⟨rfl, hsz, hP, hK, hD0, hQ⟩ := hv
  have hx := B.exec
  have hb := B.bytes
  have hr := B.returns
  have hts : ∀ w ∈ zG, w.before _ s = true := fun w h => atoms_spec (ws := ws_X1_init) B.pre w (List.mem_cons_of_mem _ h)
  have hown : s.vm.findClass RX1 = some m.cls := findClass_of_methodNamed B.named
  have hlocks := B.notSynchronized
  have hin : meth.name = "<init>" := (name_of_methodNamed B.named B.method).1
  subst hsz
  have hD := hD0.self (sz := s.heap.size)
  generalize hAe : va_A [(h0, .inr (3, [.null, .null, .null, .null, .null, .long 0, .int 0, .int 0, .int 0, .int 0, .long 0, .long 0, .long 0, .int 0, .int 0, .int 0, .int 0]))] s.heap.size = A at hD hQ ⊢
  have hA : ∀ q : Nat, s.heap.size ≤ q → A q := fun q h => by rw [← hAe]; exact Or.inr h
  have hS : va_S A s.heap s.heap [] := va_S.rf
  have hP : va_P (dC, dI) zc [(h0, .inr (3, [.null, .null, .null, .null, .null, .long 0, .int 0, .int 0, .int 0, .int 0, .long 0, .long 0, .long 0, .int 0, .int 0, .int 0, .int 0]))] s.heap := hP
  have hl := lv_entry ([.ref h0]) (n := 2) (Nat.le_of_ble_eq_true rfl)
  rw [lg_entry_eq]
  generalize (lg_sl ([.ref h0]) ++ List.replicate (2 - (lg_sl ([.ref h0])).length) Slot.unset).toArray = ls at hl ⊢
  have hl : lv_has ls 2 [(0, .ref h0)] := hl
  refine lv_aload_n hx hb dX1_init_0 rfl (lv_at hl 0 rfl) ?_
  refine W.objInit hx hb hown (hts _ kw_145) (hts _ kw_109) (hts _ kw_110) rfl (by rw [hml]; exact hl.1) rfl dX1_init_1 (Nat.le_of_ble_eq_true rfl) (Nat.le_of_ble_eq_true rfl) ?_
  refine W.eq (g2 := F0 m 4 ls []) rfl ?_
  refine lv_aload_n hx hb dX1_init_4 rfl (lv_at hl 0 rfl) ?_
  refine lv_iconst (v := 3) hx hb dX1_init_5 (by decide) ?_
  refine va_newa (atype := .long) (ty := .long) (a0 := (3, .inr (.inl (fun _ => 0)))) hx hb (hts _ kw_180) rfl hK hP hD hS hA (fun _ => rfl) (by decide) rfl (by decide) (zl_b rfl) (zl_b rfl) dX1_init_6 (fun q_1 k_2 H hK hP hD hS => ?_)
  have hP : va_P (dC, dI) zc [(h0, .inr (3, [.null, .null, .null, .null, .null, .long 0, .int 0, .int 0, .int 0, .int 0, .long 0, .long 0, .long 0, .int 0, .int 0, .int 0, .int 0])), (q_1, .inl (k_2, 3, .inr (.inl (fun _ => 0))))] H := hP
  have hD : va_D A [(h0, .inr (3, [.null, .null, .null, .null, .null, .long 0, .int 0, .int 0, .int 0, .int 0, .long 0, .long 0, .long 0, .int 0, .int 0, .int 0, .int 0])), (q_1, .inl (k_2, 3, .inr (.inl (fun _ => 0))))] := hD
  have hK : va_K (dC, dI) zc [(k_2, .long)] s := hK
  refine W.widen (k := 1) (n := 3) (zl_b rfl) (zl_b rfl) ?_
  refine va_putF (D := (dC, dI)) (ci := 3) (v := .ref q_1) (ty := .array (.long)) (C := RX1) (T := TX1) (N := 17) hx hb hts iX1 tyX1 tyX1_ok nmX1 hown hK hP hD hS 0 rfl rfl 0 (by decide) (hts _ kw_181) (fun _ h9 => h9) rfl hin rfl (by decide +kernel) rfl rfl (Nat.le_of_ble_eq_true rfl) dX1_init_8 (fun H locs hP hD hS => ?_)
  have hP : va_P (dC, dI) zc [(h0, .inr (3, [.ref q_1, .null, .null, .null, .null, .long 0, .int 0, .int 0, .int 0, .int 0, .long 0, .long 0, .long 0, .int 0, .int 0, .int 0, .int 0])), (q_1, .inl (k_2, 3, .inr (.inl (fun _ => 0))))] H := hP
  have hD : va_D A [(h0, .inr (3, [.ref q_1, .null, .null, .null, .null, .long 0, .int 0, .int 0, .int 0, .int 0, .long 0, .long 0, .long 0, .int 0, .int 0, .int 0, .int 0])), (q_1, .inl (k_2, 3, .inr (.inl (fun _ => 0))))] := hD
  refine lv_aload_n hx hb dX1_init_11 rfl (lv_at hl 0 rfl) ?_
  refine lv_iconst (v := 3) hx hb dX1_init_12 (by decide) ?_
  refine va_newa (atype := .long) (ty := .long) (a0 := (3, .inr (.inl (fun _ => 0)))) hx hb (hts _ kw_180) rfl hK hP hD hS hA (fun _ => rfl) (by decide) rfl (by decide) (zl_b rfl) (zl_b rfl) dX1_init_13 (fun q_3 k_4 H hK hP hD hS => ?_)
  have hP : va_P (dC, dI) zc [(h0, .inr (3, [.ref q_1, .null, .null, .null, .null, .long 0, .int 0, .int 0, .int 0, .int 0, .long 0, .long 0, .long 0, .int 0, .int 0, .int 0, .int 0])), (q_1, .inl (k_2, 3, .inr (.inl (fun _ => 0)))), (q_3, .inl (k_4, 3, .inr (.inl (fun _ => 0))))] H := hP
  have hD : va_D A [(h0, .inr (3, [.ref q_1, .null, .null, .null, .null, .long 0, .int 0, .int 0, .int 0, .int 0, .long 0, .long 0, .long 0, .int 0, .int 0, .int 0, .int 0])), (q_1, .inl (k_2, 3, .inr (.inl (fun _ => 0)))), (q_3, .inl (k_4, 3, .inr (.inl (fun _ => 0))))] := hD
  have hK : va_K (dC, dI) zc [(k_2, .long), (k_4, .long)] s := hK
  refine W.widen (k := 2) (n := 6) (zl_b rfl) (zl_b rfl) ?_
  refine va_putF (D := (dC, dI)) (ci := 3) (v := .ref q_3) (ty := .array (.long)) (C := RX1) (T := TX1) (N := 17) hx hb hts iX1 tyX1 tyX1_ok nmX1 hown hK hP hD hS 0 rfl rfl 1 (by decide) (hts _ kw_183) (fun _ h9 => h9) rfl hin rfl (by decide +kernel) rfl rfl (Nat.le_of_ble_eq_true rfl) dX1_init_15 (fun H locs hP hD hS => ?_)
  have hP : va_P (dC, dI) zc [(h0, .inr (3, [.ref q_1, .ref q_3, .null, .null, .null, .long 0, .int 0, .int 0, .int 0, .int 0, .long 0, .long 0, .long 0, .int 0, .int 0, .int 0, .int 0])), (q_1, .inl (k_2, 3, .inr (.inl (fun _ => 0)))), (q_3, .inl (k_4, 3, .inr (.inl (fun _ => 0))))] H := hP
  have hD : va_D A [(h0, .inr (3, [.ref q_1, .ref q_3, .null, .null, .null, .long 0, .int 0, .int 0, .int 0, .int 0, .long 0, .long 0, .long 0, .int 0, .int 0, .int 0, .int 0])), (q_1, .inl (k_2, 3, .inr (.inl (fun _ => 0)))), (q_3, .inl (k_4, 3, .inr (.inl (fun _ => 0))))] := hD
  refine lv_aload_n hx hb dX1_init_18 rfl (lv_at hl 0 rfl) ?_
  refine lv_iconst (v := 3) hx hb dX1_init_19 (by decide) ?_
  refine va_newa (atype := .int) (ty := .int) (a0 := (3, .inl (fun _ => 0))) hx hb (hts _ kw_179) rfl hK hP hD hS hA (fun _ => rfl) (by decide) rfl (by decide) (zl_b rfl) (zl_b rfl) dX1_init_20 (fun q_5 k_6 H hK hP hD hS => ?_)
  have hP : va_P (dC, dI) zc [(h0, .inr (3, [.ref q_1, .ref q_3, .null, .null, .null, .long 0, .int 0, .int 0, .int 0, .int 0, .long 0, .long 0, .long 0, .int 0, .int 0, .int 0, .int 0])), (q_1, .inl (k_2, 3, .inr (.inl (fun _ => 0)))), (q_3, .inl (k_4, 3, .inr (.inl (fun _ => 0)))), (q_5, .inl (k_6, 3, .inl (fun _ => 0)))] H := hP
  have hD : va_D A [(h0, .inr (3, [.ref q_1, .ref q_3, .null, .null, .null, .long 0, .int 0, .int 0, .int 0, .int 0, .long 0, .long 0, .long 0, .int 0, .int 0, .int 0, .int 0])), (q_1, .inl (k_2, 3, .inr (.inl (fun _ => 0)))), (q_3, .inl (k_4, 3, .inr (.inl (fun _ => 0)))), (q_5, .inl (k_6, 3, .inl (fun _ => 0)))] := hD
  have hK : va_K (dC, dI) zc [(k_2, .long), (k_4, .long), (k_6, .int)] s := hK
  refine W.widen (k := 3) (n := 9) (zl_b rfl) (zl_b rfl) ?_
  refine va_putF (D := (dC, dI)) (ci := 3) (v := .ref q_5) (ty := .array (.int)) (C := RX1) (T := TX1) (N := 17) hx hb hts iX1 tyX1 tyX1_ok nmX1 hown hK hP hD hS 0 rfl rfl 2 (by decide) (hts _ kw_184) (fun _ h9 => h9) rfl hin rfl (by decide +kernel) rfl rfl (Nat.le_of_ble_eq_true rfl) dX1_init_22 (fun H locs hP hD hS => ?_)
  have hP : va_P (dC, dI) zc [(h0, .inr (3, [.ref q_1, .ref q_3, .ref q_5, .null, .null, .long 0, .int 0, .int 0, .int 0, .int 0, .long 0, .long 0, .long 0, .int 0, .int 0, .int 0, .int 0])), (q_1, .inl (k_2, 3, .inr (.inl (fun _ => 0)))), (q_3, .inl (k_4, 3, .inr (.inl (fun _ => 0)))), (q_5, .inl (k_6, 3, .inl (fun _ => 0)))] H := hP
  have hD : va_D A [(h0, .inr (3, [.ref q_1, .ref q_3, .ref q_5, .null, .null, .long 0, .int 0, .int 0, .int 0, .int 0, .long 0, .long 0, .long 0, .int 0, .int 0, .int 0, .int 0])), (q_1, .inl (k_2, 3, .inr (.inl (fun _ => 0)))), (q_3, .inl (k_4, 3, .inr (.inl (fun _ => 0)))), (q_5, .inl (k_6, 3, .inl (fun _ => 0)))] := hD
  refine lv_aload_n hx hb dX1_init_25 rfl (lv_at hl 0 rfl) ?_
  refine lv_iconst (v := 3) hx hb dX1_init_26 (by decide) ?_
  refine va_newa (atype := .int) (ty := .int) (a0 := (3, .inl (fun _ => 0))) hx hb (hts _ kw_179) rfl hK hP hD hS hA (fun _ => rfl) (by decide) rfl (by decide) (zl_b rfl) (zl_b rfl) dX1_init_27 (fun q_7 k_8 H hK hP hD hS => ?_)
  have hP : va_P (dC, dI) zc [(h0, .inr (3, [.ref q_1, .ref q_3, .ref q_5, .null, .null, .long 0, .int 0, .int 0, .int 0, .int 0, .long 0, .long 0, .long 0, .int 0, .int 0, .int 0, .int 0])), (q_1, .inl (k_2, 3, .inr (.inl (fun _ => 0)))), (q_3, .inl (k_4, 3, .inr (.inl (fun _ => 0)))), (q_5, .inl (k_6, 3, .inl (fun _ => 0))), (q_7, .inl (k_8, 3, .inl (fun _ => 0)))] H := hP
  have hD : va_D A [(h0, .inr (3, [.ref q_1, .ref q_3, .ref q_5, .null, .null, .long 0, .int 0, .int 0, .int 0, .int 0, .long 0, .long 0, .long 0, .int 0, .int 0, .int 0, .int 0])), (q_1, .inl (k_2, 3, .inr (.inl (fun _ => 0)))), (q_3, .inl (k_4, 3, .inr (.inl (fun _ => 0)))), (q_5, .inl (k_6, 3, .inl (fun _ => 0))), (q_7, .inl (k_8, 3, .inl (fun _ => 0)))] := hD
  have hK : va_K (dC, dI) zc [(k_2, .long), (k_4, .long), (k_6, .int), (k_8, .int)] s := hK
  refine W.widen (k := 4) (n := 12) (zl_b rfl) (zl_b rfl) ?_
  refine va_putF (D := (dC, dI)) (ci := 3) (v := .ref q_7) (ty := .array (.int)) (C := RX1) (T := TX1) (N := 17) hx hb hts iX1 tyX1 tyX1_ok nmX1 hown hK hP hD hS 0 rfl rfl 3 (by decide) (hts _ kw_185) (fun _ h9 => h9) rfl hin rfl (by decide +kernel) rfl rfl (Nat.le_of_ble_eq_true rfl) dX1_init_29 (fun H locs hP hD hS => ?_)
  have hP : va_P (dC, dI) zc [(h0, .inr (3, [.ref q_1, .ref q_3, .ref q_5, .ref q_7, .null, .long 0, .int 0, .int 0, .int 0, .int 0, .long 0, .long 0, .long 0, .int 0, .int 0, .int 0, .int 0])), (q_1, .inl (k_2, 3, .inr (.inl (fun _ => 0)))), (q_3, .inl (k_4, 3, .inr (.inl (fun _ => 0)))), (q_5, .inl (k_6, 3, .inl (fun _ => 0))), (q_7, .inl (k_8, 3, .inl (fun _ => 0)))] H := hP
  have hD : va_D A [(h0, .inr (3, [.ref q_1, .ref q_3, .ref q_5, .ref q_7, .null, .long 0, .int 0, .int 0, .int 0, .int 0, .long 0, .long 0, .long 0, .int 0, .int 0, .int 0, .int 0])), (q_1, .inl (k_2, 3, .inr (.inl (fun _ => 0)))), (q_3, .inl (k_4, 3, .inr (.inl (fun _ => 0)))), (q_5, .inl (k_6, 3, .inl (fun _ => 0))), (q_7, .inl (k_8, 3, .inl (fun _ => 0)))] := hD
  refine lv_aload_n hx hb dX1_init_32 rfl (lv_at hl 0 rfl) ?_
  refine lv_bipush (v := 12) hx hb dX1_init_33 (by decide) ?_
  refine va_newq hx hb hown (hts _ kw_146) (zT_aoS hQ.1) hK hP hD hS hA (by decide) rfl (by decide) (zl_b rfl) (zl_b rfl) dX1_init_35 (fun q_9 k_10 H hK hP hD hS => ?_)
  have hP : va_P (dC, dI) zc [(h0, .inr (3, [.ref q_1, .ref q_3, .ref q_5, .ref q_7, .null, .long 0, .int 0, .int 0, .int 0, .int 0, .long 0, .long 0, .long 0, .int 0, .int 0, .int 0, .int 0])), (q_1, .inl (k_2, 3, .inr (.inl (fun _ => 0)))), (q_3, .inl (k_4, 3, .inr (.inl (fun _ => 0)))), (q_5, .inl (k_6, 3, .inl (fun _ => 0))), (q_7, .inl (k_8, 3, .inl (fun _ => 0))), (q_9, .inl (k_10, 12, .inr (.inr (.inr (.inr (fun _ => none))))))] H := hP
  have hD : va_D A [(h0, .inr (3, [.ref q_1, .ref q_3, .ref q_5, .ref q_7, .null, .long 0, .int 0, .int 0, .int 0, .int 0, .long 0, .long 0, .long 0, .int 0, .int 0, .int 0, .int 0])), (q_1, .inl (k_2, 3, .inr (.inl (fun _ => 0)))), (q_3, .inl (k_4, 3, .inr (.inl (fun _ => 0)))), (q_5, .inl (k_6, 3, .inl (fun _ => 0))), (q_7, .inl (k_8, 3, .inl (fun _ => 0))), (q_9, .inl (k_10, 12, .inr (.inr (.inr (.inr (fun _ => none))))))] := hD
  have hK : va_K (dC, dI) zc [(k_2, .long), (k_4, .long), (k_6, .int), (k_8, .int), (k_10, .object "StatementCycle$Statement")] s := hK
  refine W.widen (k := 5) (n := 24) (zl_b rfl) (zl_b rfl) ?_
  refine va_putF (D := (dC, dI)) (ci := 3) (v := .ref q_9) (ty := .array (.object "StatementCycle$Statement")) (C := RX1) (T := TX1) (N := 17) hx hb hts iX1 tyX1 tyX1_ok nmX1 hown hK hP hD hS 0 rfl rfl 4 (by decide) (hts _ kw_186) (fun _ h9 => h9) rfl hin rfl (by decide +kernel) rfl rfl (Nat.le_of_ble_eq_true rfl) dX1_init_38 (fun H locs hP hD hS => ?_)
  have hP : va_P (dC, dI) zc [(h0, .inr (3, [.ref q_1, .ref q_3, .ref q_5, .ref q_7, .ref q_9, .long 0, .int 0, .int 0, .int 0, .int 0, .long 0, .long 0, .long 0, .int 0, .int 0, .int 0, .int 0])), (q_1, .inl (k_2, 3, .inr (.inl (fun _ => 0)))), (q_3, .inl (k_4, 3, .inr (.inl (fun _ => 0)))), (q_5, .inl (k_6, 3, .inl (fun _ => 0))), (q_7, .inl (k_8, 3, .inl (fun _ => 0))), (q_9, .inl (k_10, 12, .inr (.inr (.inr (.inr (fun _ => none))))))] H := hP
  have hD : va_D A [(h0, .inr (3, [.ref q_1, .ref q_3, .ref q_5, .ref q_7, .ref q_9, .long 0, .int 0, .int 0, .int 0, .int 0, .long 0, .long 0, .long 0, .int 0, .int 0, .int 0, .int 0])), (q_1, .inl (k_2, 3, .inr (.inl (fun _ => 0)))), (q_3, .inl (k_4, 3, .inr (.inl (fun _ => 0)))), (q_5, .inl (k_6, 3, .inl (fun _ => 0))), (q_7, .inl (k_8, 3, .inl (fun _ => 0))), (q_9, .inl (k_10, 12, .inr (.inr (.inr (.inr (fun _ => none))))))] := hD
  have hP : va_P (dC, dI) zc [(h0, .inr (3, [.ref q_1, .ref q_3, .ref q_5, .ref q_7, .ref q_9, .long 0, .int 0, .int 0, .int 0, .int 0, .long 0, .long 0, .long 0, .int 0, .int 0, .int 0, .int 0])), (q_9, .inl (k_10, 12, .inr (.inr (.inr (.inr (fun _ => none))))))] H := hP.sub [0, 5] rfl
  have hD : va_D A [(h0, .inr (3, [.ref q_1, .ref q_3, .ref q_5, .ref q_7, .ref q_9, .long 0, .int 0, .int 0, .int 0, .int 0, .long 0, .long 0, .long 0, .int 0, .int 0, .int 0, .int 0])), (q_9, .inl (k_10, 12, .inr (.inr (.inr (.inr (fun _ => none))))))] := hD.sub [0, 5] (by decide) rfl
  refine lv_iconst (v := 0) hx hb dX1_init_41 (by decide) ?_
  refine lv_istore_n (lv' := [(1, .int 0), (0, .ref h0)]) hx hb dX1_init_42 rfl hl (by decide) rfl (fun ls hl => ?_)
  refine lv_iload_n hx hb dX1_init_43 rfl (lv_at hl 0 rfl) ?_
  refine lv_bipush (v := 12) hx hb dX1_init_44 (by decide) ?_
  refine lv_icmp_ge (tgt := 68) hx hb dX1_init_46 (by decide) (fun c_11 => absurd c_11 (by decide)) (fun c_11 => ?_)
  refine lv_aload_n hx hb dX1_init_49 rfl (lv_at hl 1 rfl) ?_
  refine va_get (D := (dC, dI)) (ci := 3) (v := .ref q_9) (C := RX1) (T := TX1) (N := 17) hx hb hts iX1 hown hK hP 0 rfl rfl 4 (by decide) (hts _ kw_186) (fun _ h9 => h9) rfl dX1_init_50 ?_
  refine lv_iload_n hx hb dX1_init_53 rfl (lv_at hl 0 rfl) ?_
  refine va_new (ci := 4) (fs := [.long 0, .long 0, .long 0, .int 0, .int 0]) (C := RX3) (T := TX3) (N := 5) hx hb hts iX3 tyX3 tyX3_ok hown (hts _ kw_146) (hts _ kw_148) (hts _ kw_69) hK hP hD hS hA rfl z_dfX3 (zl_b rfl) (zl_b rfl) dX1_init_54 (fun q_12 H hP hD hS => ?_)
  have hP : va_P (dC, dI) zc [(h0, .inr (3, [.ref q_1, .ref q_3, .ref q_5, .ref q_7, .ref q_9, .long 0, .int 0, .int 0, .int 0, .int 0, .long 0, .long 0, .long 0, .int 0, .int 0, .int 0, .int 0])), (q_9, .inl (k_10, 12, .inr (.inr (.inr (.inr (fun _ => none)))))), (q_12, .inr (4, [.long 0, .long 0, .long 0, .int 0, .int 0]))] H := hP
  have hD : va_D A [(h0, .inr (3, [.ref q_1, .ref q_3, .ref q_5, .ref q_7, .ref q_9, .long 0, .int 0, .int 0, .int 0, .int 0, .long 0, .long 0, .long 0, .int 0, .int 0, .int 0, .int 0])), (q_9, .inl (k_10, 12, .inr (.inr (.inr (.inr (fun _ => none)))))), (q_12, .inr (4, [.long 0, .long 0, .long 0, .int 0, .int 0]))] := hD
  refine W.widen (k := 6) (n := 29) (zl_b rfl) (zl_b rfl) ?_
  refine lv_dup hx hb dX1_init_57 rfl ?_
  have hFc := va_free (wc := [(q_12, .inr (4, [.long 0, .long 0, .long 0, .int 0, .int 0]))]) hD hS hA [2] rfl
  refine va_callv (va_runIN (As := []) (rest := [.ref q_12, .int 0, .ref q_9]) ⟨hx, hb, hml, hown, hts⟩ (c_St_init l dC dI H.size t q_12) ⟨va_cnB 0 hts (zg_c kw_151) rfl rfl rfl (zT_nX1_31 hQ.1) (hts _ kw_69) (by decide +kernel) ⟨Nat.le_of_ble_eq_true rfl, Nat.le_of_ble_eq_true rfl⟩, rfl, (hts _ kw_150)⟩ ⟨zA_blind, zA_pre hP hD hS hK hQ hA [2] rfl rfl (by decide) [] rfl⟩ rfl rfl hl.1 rfl (lv_room (Nat.le_of_ble_eq_true rfl)) dX1_init_58 ⟨zl_b rfl, zl_b rfl⟩) hS (fun q _ h => hFc q h) hFc (fun u t9 H1 locs ht hvm hw hB hz1 hk1 hS => ?_)
  obtain ⟨hP1, hK1, hD1⟩ := hB
  rw [ht] at hP1
  have hK1 := va_K.moved hvm.symm hK1
  obtain ⟨hP, hD⟩ := va_join (wr := [(h0, .inr (3, [.ref q_1, .ref q_3, .ref q_5, .ref q_7, .ref q_9, .long 0, .int 0, .int 0, .int 0, .int 0, .long 0, .long 0, .long 0, .int 0, .int 0, .int 0, .int 0])), (q_9, .inl (k_10, 12, .inr (.inr (.inr (.inr (fun _ => none))))))]) (w1 := [(q_12, .inr (4, [.long 0, .long 0, .long 0, .int 0, .int 0]))]) hP hD [2] [0, 1] rfl rfl (by decide) (by decide) hk1 hFc hP1 hD1
  have hK := (hK.sub (tys' := [(k_2, .long), (k_4, .long), (k_6, .int), (k_8, .int), (k_10, .object "StatementCycle$Statement")]) [0, 1, 2, 3, 4] rfl).app hK1
  generalize H1 = H at hP hS ⊢
  have hP : va_P (dC, dI) zc [(h0, .inr (3, [.ref q_1, .ref q_3, .ref q_5, .ref q_7, .ref q_9, .long 0, .int 0, .int 0, .int 0, .int 0, .long 0, .long 0, .long 0, .int 0, .int 0, .int 0, .int 0])), (q_9, .inl (k_10, 12, .inr (.inr (.inr (.inr (fun _ => none)))))), (q_12, .inr (4, [.long 0, .long 0, .long 0, .int 0, .int 0]))] H := hP
  have hD : va_D A [(h0, .inr (3, [.ref q_1, .ref q_3, .ref q_5, .ref q_7, .ref q_9, .long 0, .int 0, .int 0, .int 0, .int 0, .long 0, .long 0, .long 0, .int 0, .int 0, .int 0, .int 0])), (q_9, .inl (k_10, 12, .inr (.inr (.inr (.inr (fun _ => none)))))), (q_12, .inr (4, [.long 0, .long 0, .long 0, .int 0, .int 0]))] := hD
  have hK : va_K (dC, dI) zc [(k_2, .long), (k_4, .long), (k_6, .int), (k_8, .int), (k_10, .object "StatementCycle$Statement")] s := hK
  refine va_astq hx hb hK hP hD hS 1 4 2 4 rfl rfl rfl rfl (by unfold vp_in; decide) dX1_init_61 (fun H locs hP hD hS => ?_)
  have hP : va_P (dC, dI) zc [(h0, .inr (3, [.ref q_1, .ref q_3, .ref q_5, .ref q_7, .ref q_9, .long 0, .int 0, .int 0, .int 0, .int 0, .long 0, .long 0, .long 0, .int 0, .int 0, .int 0, .int 0])), (q_9, .inl (k_10, 12, .inr (.inr (.inr (.inr (va_up (fun _ => none) (0 : Int32).toNatClampNeg (some q_12))))))), (q_12, .inr (4, [.long 0, .long 0, .long 0, .int 0, .int 0]))] H := hP
  have hD : va_D A [(h0, .inr (3, [.ref q_1, .ref q_3, .ref q_5, .ref q_7, .ref q_9, .long 0, .int 0, .int 0, .int 0, .int 0, .long 0, .long 0, .long 0, .int 0, .int 0, .int 0, .int 0])), (q_9, .inl (k_10, 12, .inr (.inr (.inr (.inr (va_up (fun _ => none) (0 : Int32).toNatClampNeg (some q_12))))))), (q_12, .inr (4, [.long 0, .long 0, .long 0, .int 0, .int 0]))] := hD
  have hP : va_P (dC, dI) zc [(h0, .inr (3, [.ref q_1, .ref q_3, .ref q_5, .ref q_7, .ref q_9, .long 0, .int 0, .int 0, .int 0, .int 0, .long 0, .long 0, .long 0, .int 0, .int 0, .int 0, .int 0])), (q_9, .inl (k_10, 12, .inr (.inr (.inr (.inr (va_up (fun _ => none) (0 : Int32).toNatClampNeg (some q_12)))))))] H := hP.sub [0, 1] rfl
  have hD : va_D A [(h0, .inr (3, [.ref q_1, .ref q_3, .ref q_5, .ref q_7, .ref q_9, .long 0, .int 0, .int 0, .int 0, .int 0, .long 0, .long 0, .long 0, .int 0, .int 0, .int 0, .int 0])), (q_9, .inl (k_10, 12, .inr (.inr (.inr (.inr (va_up (fun _ => none) (0 : Int32).toNatClampNeg (some q_12)))))))] := hD.sub [0, 1] (by decide) rfl
  refine lv_iinc (v := 1) (lv' := [(1, .int 1), (0, .ref h0)]) hx hb dX1_init_62 hl (k := 0) rfl (by decide) (by decide) rfl (fun ls hl => ?_)
  refine lv_goto (tgt := 43) hx hb dX1_init_65 (by decide) ?_
  refine lv_iload_n hx hb dX1_init_43 rfl (lv_at hl 0 rfl) ?_
  refine lv_bipush (v := 12) hx hb dX1_init_44 (by decide) ?_
  refine lv_icmp_ge (tgt := 68) hx hb dX1_init_46 (by decide) (fun c_13 => absurd c_13 (by decide)) (fun c_13 => ?_)
  refine lv_aload_n hx hb dX1_init_49 rfl (lv_at hl 1 rfl) ?_
  refine va_get (D := (dC, dI)) (ci := 3) (v := .ref q_9) (C := RX1) (T := TX1) (N := 17) hx hb hts iX1 hown hK hP 0 rfl rfl 4 (by decide) (hts _ kw_186) (fun _ h9 => h9) rfl dX1_init_50 ?_
  refine lv_iload_n hx hb dX1_init_53 rfl (lv_at hl 0 rfl) ?_
  refine va_new (ci := 4) (fs := [.long 0, .long 0, .long 0, .int 0, .int 0]) (C := RX3) (T := TX3) (N := 5) hx hb hts iX3 tyX3 tyX3_ok hown (hts _ kw_146) (hts _ kw_148) (hts _ kw_69) hK hP hD hS hA rfl z_dfX3 (zl_b rfl) (zl_b rfl) dX1_init_54 (fun q_14 H hP hD hS => ?_)
  have hP : va_P (dC, dI) zc [(h0, .inr (3, [.ref q_1, .ref q_3, .ref q_5, .ref q_7, .ref q_9, .long 0, .int 0, .int 0, .int 0, .int 0, .long 0, .long 0, .long 0, .int 0, .int 0, .int 0, .int 0])), (q_9, .inl (k_10, 12, .inr (.inr (.inr (.inr (va_up (fun _ => none) (0 : Int32).toNatClampNeg (some q_12))))))), (q_14, .inr (4, [.long 0, .long 0, .long 0, .int 0, .int 0]))] H := hP
  have hD : va_D A [(h0, .inr (3, [.ref q_1, .ref q_3, .ref q_5, .ref q_7, .ref q_9, .long 0, .int 0, .int 0, .int 0, .int 0, .long 0, .long 0, .long 0, .int 0, .int 0, .int 0, .int 0])), (q_9, .inl (k_10, 12, .inr (.inr (.inr (.inr (va_up (fun _ => none) (0 : Int32).toNatClampNeg (some q_12))))))), (q_14, .inr (4, [.long 0, .long 0, .long 0, .int 0, .int 0]))] := hD
  refine W.widen (k := 7) (n := 34) (zl_b rfl) (zl_b rfl) ?_
  refine lv_dup hx hb dX1_init_57 rfl ?_
  have hFc := va_free (wc := [(q_14, .inr (4, [.long 0, .long 0, .long 0, .int 0, .int 0]))]) hD hS hA [2] rfl
  refine va_callv (va_runIN (As := []) (rest := [.ref q_14, .int 1, .ref q_9]) ⟨hx, hb, hml, hown, hts⟩ (c_St_init l dC dI H.size t q_14) ⟨va_cnB 0 hts (zg_c kw_151) rfl rfl rfl (zT_nX1_31 hQ.1) (hts _ kw_69) (by decide +kernel) ⟨Nat.le_of_ble_eq_true rfl, Nat.le_of_ble_eq_true rfl⟩, rfl, (hts _ kw_150)⟩ ⟨zA_blind, zA_pre hP hD hS hK hQ hA [2] rfl rfl (by decide) [] rfl⟩ rfl rfl hl.1 rfl (lv_room (Nat.le_of_ble_eq_true rfl)) dX1_init_58 ⟨zl_b rfl, zl_b rfl⟩) hS (fun q _ h => hFc q h) hFc (fun u t9 H1 locs ht hvm hw hB hz1 hk1 hS => ?_)
  obtain ⟨hP1, hK1, hD1⟩ := hB
  rw [ht] at hP1
  have hK1 := va_K.moved hvm.symm hK1
  obtain ⟨hP, hD⟩ := va_join (wr := [(h0, .inr (3, [.ref q_1, .ref q_3, .ref q_5, .ref q_7, .ref q_9, .long 0, .int 0, .int 0, .int 0, .int 0, .long 0, .long 0, .long 0, .int 0, .int 0, .int 0, .int 0])), (q_9, .inl (k_10, 12, .inr (.inr (.inr (.inr (va_up (fun _ => none) (0 : Int32).toNatClampNeg (some q_12)))))))]) (w1 := [(q_14, .inr (4, [.long 0, .long 0, .long 0, .int 0, .int 0]))]) hP hD [2] [0, 1] rfl rfl (by decide) (by decide) hk1 hFc hP1 hD1
  have hK := (hK.sub (tys' := [(k_2, .long), (k_4, .long), (k_6, .int), (k_8, .int), (k_10, .object "StatementCycle$Statement")]) [0, 1, 2, 3, 4] rfl).app hK1
  generalize H1 = H at hP hS ⊢
  have hP : va_P (dC, dI) zc [(h0, .inr (3, [.ref q_1, .ref q_3, .ref q_5, .ref q_7, .ref q_9, .long 0, .int 0, .int 0, .int 0, .int 0, .long 0, .long 0, .long 0, .int 0, .int 0, .int 0, .int 0])), (q_9, .inl (k_10, 12, .inr (.inr (.inr (.inr (va_up (fun _ => none) (0 : Int32).toNatClampNeg (some q_12))))))), (q_14, .inr (4, [.long 0, .long 0, .long 0, .int 0, .int 0]))] H := hP
  have hD : va_D A [(h0, .inr (3, [.ref q_1, .ref q_3, .ref q_5, .ref q_7, .ref q_9, .long 0, .int 0, .int 0, .int 0, .int 0, .long 0, .long 0, .long 0, .int 0, .int 0, .int 0, .int 0])), (q_9, .inl (k_10, 12, .inr (.inr (.inr (.inr (va_up (fun _ => none) (0 : Int32).toNatClampNeg (some q_12))))))), (q_14, .inr (4, [.long 0, .long 0, .long 0, .int 0, .int 0]))] := hD
  have hK : va_K (dC, dI) zc [(k_2, .long), (k_4, .long), (k_6, .int), (k_8, .int), (k_10, .object "StatementCycle$Statement")] s := hK
  refine va_astq hx hb hK hP hD hS 1 4 2 4 rfl rfl rfl rfl (by unfold vp_in; decide) dX1_init_61 (fun H locs hP hD hS => ?_)
  have hP : va_P (dC, dI) zc [(h0, .inr (3, [.ref q_1, .ref q_3, .ref q_5, .ref q_7, .ref q_9, .long 0, .int 0, .int 0, .int 0, .int 0, .long 0, .long 0, .long 0, .int 0, .int 0, .int 0, .int 0])), (q_9, .inl (k_10, 12, .inr (.inr (.inr (.inr (va_up (va_up (fun _ => none) (0 : Int32).toNatClampNeg (some q_12)) (1 : Int32).toNatClampNeg (some q_14))))))), (q_14, .inr (4, [.long 0, .long 0, .long 0, .int 0, .int 0]))] H := hP
  have hD : va_D A [(h0, .inr (3, [.ref q_1, .ref q_3, .ref q_5, .ref q_7, .ref q_9, .long 0, .int 0, .int 0, .int 0, .int 0, .long 0, .long 0, .long 0, .int 0, .int 0, .int 0, .int 0])), (q_9, .inl (k_10, 12, .inr (.inr (.inr (.inr (va_up (va_up (fun _ => none) (0 : Int32).toNatClampNeg (some q_12)) (1 : Int32).toNatClampNeg (some q_14))))))), (q_14, .inr (4, [.long 0, .long 0, .long 0, .int 0, .int 0]))] := hD
  have hP : va_P (dC, dI) zc [(h0, .inr (3, [.ref q_1, .ref q_3, .ref q_5, .ref q_7, .ref q_9, .long 0, .int 0, .int 0, .int 0, .int 0, .long 0, .long 0, .long 0, .int 0, .int 0, .int 0, .int 0])), (q_9, .inl (k_10, 12, .inr (.inr (.inr (.inr (va_up (va_up (fun _ => none) (0 : Int32).toNatClampNeg (some q_12)) (1 : Int32).toNatClampNeg (some q_14)))))))] H := hP.sub [0, 1] rfl
  have hD : va_D A [(h0, .inr (3, [.ref q_1, .ref q_3, .ref q_5, .ref q_7, .ref q_9, .long 0, .int 0, .int 0, .int 0, .int 0, .long 0, .long 0, .long 0, .int 0, .int 0, .int 0, .int 0])), (q_9, .inl (k_10, 12, .inr (.inr (.inr (.inr (va_up (va_up (fun _ => none) (0 : Int32).toNatClampNeg (some q_12)) (1 : Int32).toNatClampNeg (some q_14)))))))] := hD.sub [0, 1] (by decide) rfl
  refine lv_iinc (v := 2) (lv' := [(1, .int 2), (0, .ref h0)]) hx hb dX1_init_62 hl (k := 0) rfl (by decide) (by decide) rfl (fun ls hl => ?_)
  refine lv_goto (tgt := 43) hx hb dX1_init_65 (by decide) ?_
  refine lv_iload_n hx hb dX1_init_43 rfl (lv_at hl 0 rfl) ?_
  refine lv_bipush (v := 12) hx hb dX1_init_44 (by decide) ?_
  refine lv_icmp_ge (tgt := 68) hx hb dX1_init_46 (by decide) (fun c_15 => absurd c_15 (by decide)) (fun c_15 => ?_)
  refine lv_aload_n hx hb dX1_init_49 rfl (lv_at hl 1 rfl) ?_
  refine va_get (D := (dC, dI)) (ci := 3) (v := .ref q_9) (C := RX1) (T := TX1) (N := 17) hx hb hts iX1 hown hK hP 0 rfl rfl 4 (by decide) (hts _ kw_186) (fun _ h9 => h9) rfl dX1_init_50 ?_
  refine lv_iload_n hx hb dX1_init_53 rfl (lv_at hl 0 rfl) ?_
  refine va_new (ci := 4) (fs := [.long 0, .long 0, .long 0, .int 0, .int 0]) (C := RX3) (T := TX3) (N := 5) hx hb hts iX3 tyX3 tyX3_ok hown (hts _ kw_146) (hts _ kw_148) (hts _ kw_69) hK hP hD hS hA rfl z_dfX3 (zl_b rfl) (zl_b rfl) dX1_init_54 (fun q_16 H hP hD hS => ?_)
  have hP : va_P (dC, dI) zc [(h0, .inr (3, [.ref q_1, .ref q_3, .ref q_5, .ref q_7, .ref q_9, .long 0, .int 0, .int 0, .int 0, .int 0, .long 0, .long 0, .long 0, .int 0, .int 0, .int 0, .int 0])), (q_9, .inl (k_10, 12, .inr (.inr (.inr (.inr (va_up (va_up (fun _ => none) (0 : Int32).toNatClampNeg (some q_12)) (1 : Int32).toNatClampNeg (some q_14))))))), (q_16, .inr (4, [.long 0, .long 0, .long 0, .int 0, .int 0]))] H := hP
  have hD : va_D A [(h0, .inr (3, [.ref q_1, .ref q_3, .ref q_5, .ref q_7, .ref q_9, .long 0, .int 0, .int 0, .int 0, .int 0, .long 0, .long 0, .long 0, .int 0, .int 0, .int 0, .int 0])), (q_9, .inl (k_10, 12, .inr (.inr (.inr (.inr (va_up (va_up (fun _ => none) (0 : Int32).toNatClampNeg (some q_12)) (1 : Int32).toNatClampNeg (some q_14))))))), (q_16, .inr (4, [.long 0, .long 0, .long 0, .int 0, .int 0]))] := hD
  refine W.widen (k := 8) (n := 39) (zl_b rfl) (zl_b rfl) ?_
  refine lv_dup hx hb dX1_init_57 rfl ?_
  have hFc := va_free (wc := [(q_16, .inr (4, [.long 0, .long 0, .long 0, .int 0, .int 0]))]) hD hS hA [2] rfl
  refine va_callv (va_runIN (As := []) (rest := [.ref q_16, .int 2, .ref q_9]) ⟨hx, hb, hml, hown, hts⟩ (c_St_init l dC dI H.size t q_16) ⟨va_cnB 0 hts (zg_c kw_151) rfl rfl rfl (zT_nX1_31 hQ.1) (hts _ kw_69) (by decide +kernel) ⟨Nat.le_of_ble_eq_true rfl, Nat.le_of_ble_eq_true rfl⟩, rfl, (hts _ kw_150)⟩ ⟨zA_blind, zA_pre hP hD hS hK hQ hA [2] rfl rfl (by decide) [] rfl⟩ rfl rfl hl.1 rfl (lv_room (Nat.le_of_ble_eq_true rfl)) dX1_init_58 ⟨zl_b rfl, zl_b rfl⟩) hS (fun q _ h => hFc q h) hFc (fun u t9 H1 locs ht hvm hw hB hz1 hk1 hS => ?_)
  obtain ⟨hP1, hK1, hD1⟩ := hB
  rw [ht] at hP1
  have hK1 := va_K.moved hvm.symm hK1
  obtain ⟨hP, hD⟩ := va_join (wr := [(h0, .inr (3, [.ref q_1, .ref q_3, .ref q_5, .ref q_7, .ref q_9, .long 0, .int 0, .int 0, .int 0, .int 0, .long 0, .long 0, .long 0, .int 0, .int 0, .int 0, .int 0])), (q_9, .inl (k_10, 12, .inr (.inr (.inr (.inr (va_up (va_up (fun _ => none) (0 : Int32).toNatClampNeg (some q_12)) (1 : Int32).toNatClampNeg (some q_14)))))))]) (w1 := [(q_16, .inr (4, [.long 0, .long 0, .long 0, .int 0, .int 0]))]) hP hD [2] [0, 1] rfl rfl (by decide) (by decide) hk1 hFc hP1 hD1
  have hK := (hK.sub (tys' := [(k_2, .long), (k_4, .long), (k_6, .int), (k_8, .int), (k_10, .object "StatementCycle$Statement")]) [0, 1, 2, 3, 4] rfl).app hK1
  generalize H1 = H at hP hS ⊢
  have hP : va_P (dC, dI) zc [(h0, .inr (3, [.ref q_1, .ref q_3, .ref q_5, .ref q_7, .ref q_9, .long 0, .int 0, .int 0, .int 0, .int 0, .long 0, .long 0, .long 0, .int 0, .int 0, .int 0, .int 0])), (q_9, .inl (k_10, 12, .inr (.inr (.inr (.inr (va_up (va_up (fun _ => none) (0 : Int32).toNatClampNeg (some q_12)) (1 : Int32).toNatClampNeg (some q_14))))))), (q_16, .inr (4, [.long 0, .long 0, .long 0, .int 0, .int 0]))] H := hP
  have hD : va_D A [(h0, .inr (3, [.ref q_1, .ref q_3, .ref q_5, .ref q_7, .ref q_9, .long 0, .int 0, .int 0, .int 0, .int 0, .long 0, .long 0, .long 0, .int 0, .int 0, .int 0, .int 0])), (q_9, .inl (k_10, 12, .inr (.inr (.inr (.inr (va_up (va_up (fun _ => none) (0 : Int32).toNatClampNeg (some q_12)) (1 : Int32).toNatClampNeg (some q_14))))))), (q_16, .inr (4, [.long 0, .long 0, .long 0, .int 0, .int 0]))] := hD
  have hK : va_K (dC, dI) zc [(k_2, .long), (k_4, .long), (k_6, .int), (k_8, .int), (k_10, .object "StatementCycle$Statement")] s := hK
  refine va_astq hx hb hK hP hD hS 1 4 2 4 rfl rfl rfl rfl (by unfold vp_in; decide) dX1_init_61 (fun H locs hP hD hS => ?_)
  have hP : va_P (dC, dI) zc [(h0, .inr (3, [.ref q_1, .ref q_3, .ref q_5, .ref q_7, .ref q_9, .long 0, .int 0, .int 0, .int 0, .int 0, .long 0, .long 0, .long 0, .int 0, .int 0, .int 0, .int 0])), (q_9, .inl (k_10, 12, .inr (.inr (.inr (.inr (va_up (va_up (va_up (fun _ => none) (0 : Int32).toNatClampNeg (some q_12)) (1 : Int32).toNatClampNeg (some q_14)) (2 : Int32).toNatClampNeg (some q_16))))))), (q_16, .inr (4, [.long 0, .long 0, .long 0, .int 0, .int 0]))] H := hP
  have hD : va_D A [(h0, .inr (3, [.ref q_1, .ref q_3, .ref q_5, .ref q_7, .ref q_9, .long 0, .int 0, .int 0, .int 0, .int 0, .long 0, .long 0, .long 0, .int 0, .int 0, .int 0, .int 0])), (q_9, .inl (k_10, 12, .inr (.inr (.inr (.inr (va_up (va_up (va_up (fun _ => none) (0 : Int32).toNatClampNeg (some q_12)) (1 : Int32).toNatClampNeg (some q_14)) (2 : Int32).toNatClampNeg (some q_16))))))), (q_16, .inr (4, [.long 0, .long 0, .long 0, .int 0, .int 0]))] := hD
  have hP : va_P (dC, dI) zc [(h0, .inr (3, [.ref q_1, .ref q_3, .ref q_5, .ref q_7, .ref q_9, .long 0, .int 0, .int 0, .int 0, .int 0, .long 0, .long 0, .long 0, .int 0, .int 0, .int 0, .int 0])), (q_9, .inl (k_10, 12, .inr (.inr (.inr (.inr (va_up (va_up (va_up (fun _ => none) (0 : Int32).toNatClampNeg (some q_12)) (1 : Int32).toNatClampNeg (some q_14)) (2 : Int32).toNatClampNeg (some q_16)))))))] H := hP.sub [0, 1] rfl
  have hD : va_D A [(h0, .inr (3, [.ref q_1, .ref q_3, .ref q_5, .ref q_7, .ref q_9, .long 0, .int 0, .int 0, .int 0, .int 0, .long 0, .long 0, .long 0, .int 0, .int 0, .int 0, .int 0])), (q_9, .inl (k_10, 12, .inr (.inr (.inr (.inr (va_up (va_up (va_up (fun _ => none) (0 : Int32).toNatClampNeg (some q_12)) (1 : Int32).toNatClampNeg (some q_14)) (2 : Int32).toNatClampNeg (some q_16)))))))] := hD.sub [0, 1] (by decide) rfl
  refine lv_iinc (v := 3) (lv' := [(1, .int 3), (0, .ref h0)]) hx hb dX1_init_62 hl (k := 0) rfl (by decide) (by decide) rfl (fun ls hl => ?_)
  refine lv_goto (tgt := 43) hx hb dX1_init_65 (by decide) ?_
  refine lv_iload_n hx hb dX1_init_43 rfl (lv_at hl 0 rfl) ?_
  refine lv_bipush (v := 12) hx hb dX1_init_44 (by decide) ?_
  refine lv_icmp_ge (tgt := 68) hx hb dX1_init_46 (by decide) (fun c_17 => absurd c_17 (by decide)) (fun c_17 => ?_)
  refine lv_aload_n hx hb dX1_init_49 rfl (lv_at hl 1 rfl) ?_
  refine va_get (D := (dC, dI)) (ci := 3) (v := .ref q_9) (C := RX1) (T := TX1) (N := 17) hx hb hts iX1 hown hK hP 0 rfl rfl 4 (by decide) (hts _ kw_186) (fun _ h9 => h9) rfl dX1_init_50 ?_
  refine lv_iload_n hx hb dX1_init_53 rfl (lv_at hl 0 rfl) ?_
  refine va_new (ci := 4) (fs := [.long 0, .long 0, .long 0, .int 0, .int 0]) (C := RX3) (T := TX3) (N := 5) hx hb hts iX3 tyX3 tyX3_ok hown (hts _ kw_146) (hts _ kw_148) (hts _ kw_69) hK hP hD hS hA rfl z_dfX3 (zl_b rfl) (zl_b rfl) dX1_init_54 (fun q_18 H hP hD hS => ?_)
  have hP : va_P (dC, dI) zc [(h0, .inr (3, [.ref q_1, .ref q_3, .ref q_5, .ref q_7, .ref q_9, .long 0, .int 0, .int 0, .int 0, .int 0, .long 0, .long 0, .long 0, .int 0, .int 0, .int 0, .int 0])), (q_9, .inl (k_10, 12, .inr (.inr (.inr (.inr (va_up (va_up (va_up (fun _ => none) (0 : Int32).toNatClampNeg (some q_12)) (1 : Int32).toNatClampNeg (some q_14)) (2 : Int32).toNatClampNeg (some q_16))))))), (q_18, .inr (4, [.long 0, .long 0, .long 0, .int 0, .int 0]))] H := hP
  have hD : va_D A [(h0, .inr (3, [.ref q_1, .ref q_3, .ref q_5, .ref q_7, .ref q_9, .long 0, .int 0, .int 0, .int 0, .int 0, .long 0, .long 0, .long 0, .int 0, .int 0, .int 0, .int 0])), (q_9, .inl (k_10, 12, .inr (.inr (.inr (.inr (va_up (va_up (va_up (fun _ => none) (0 : Int32).toNatClampNeg (some q_12)) (1 : Int32).toNatClampNeg (some q_14)) (2 : Int32).toNatClampNeg (some q_16))))))), (q_18, .inr (4, [.long 0, .long 0, .long 0, .int 0, .int 0]))] := hD
  refine W.widen (k := 9) (n := 44) (zl_b rfl) (zl_b rfl) ?_
  refine lv_dup hx hb dX1_init_57 rfl ?_
  have hFc := va_free (wc := [(q_18, .inr (4, [.long 0, .long 0, .long 0, .int 0, .int 0]))]) hD hS hA [2] rfl
  refine va_callv (va_runIN (As := []) (rest := [.ref q_18, .int 3, .ref q_9]) ⟨hx, hb, hml, hown, hts⟩ (c_St_init l dC dI H.size t q_18) ⟨va_cnB 0 hts (zg_c kw_151) rfl rfl rfl (zT_nX1_31 hQ.1) (hts _ kw_69) (by decide +kernel) ⟨Nat.le_of_ble_eq_true rfl, Nat.le_of_ble_eq_true rfl⟩, rfl, (hts _ kw_150)⟩ ⟨zA_blind, zA_pre hP hD hS hK hQ hA [2] rfl rfl (by decide) [] rfl⟩ rfl rfl hl.1 rfl (lv_room (Nat.le_of_ble_eq_true rfl)) dX1_init_58 ⟨zl_b rfl, zl_b rfl⟩) hS (fun q _ h => hFc q h) hFc (fun u t9 H1 locs ht hvm hw hB hz1 hk1 hS => ?_)
  obtain ⟨hP1, hK1, hD1⟩ := hB
  rw [ht] at hP1
  have hK1 := va_K.moved hvm.symm hK1
  obtain ⟨hP, hD⟩ := va_join (wr := [(h0, .inr (3, [.ref q_1, .ref q_3, .ref q_5, .ref q_7, .ref q_9, .long 0, .int 0, .int 0, .int 0, .int 0, .long 0, .long 0, .long 0, .int 0, .int 0, .int 0, .int 0])), (q_9, .inl (k_10, 12, .inr (.inr (.inr (.inr (va_up (va_up (va_up (fun _ => none) (0 : Int32).toNatClampNeg (some q_12)) (1 : Int32).toNatClampNeg (some q_14)) (2 : Int32).toNatClampNeg (some q_16)))))))]) (w1 := [(q_18, .inr (4, [.long 0, .long 0, .long 0, .int 0, .int 0]))]) hP hD [2] [0, 1] rfl rfl (by decide) (by decide) hk1 hFc hP1 hD1
  have hK := (hK.sub (tys' := [(k_2, .long), (k_4, .long), (k_6, .int), (k_8, .int), (k_10, .object "StatementCycle$Statement")]) [0, 1, 2, 3, 4] rfl).app hK1
  generalize H1 = H at hP hS ⊢
  have hP : va_P (dC, dI) zc [(h0, .inr (3, [.ref q_1, .ref q_3, .ref q_5, .ref q_7, .ref q_9, .long 0, .int 0, .int 0, .int 0, .int 0, .long 0, .long 0, .long 0, .int 0, .int 0, .int 0, .int 0])), (q_9, .inl (k_10, 12, .inr (.inr (.inr (.inr (va_up (va_up (va_up (fun _ => none) (0 : Int32).toNatClampNeg (some q_12)) (1 : Int32).toNatClampNeg (some q_14)) (2 : Int32).toNatClampNeg (some q_16))))))), (q_18, .inr (4, [.long 0, .long 0, .long 0, .int 0, .int 0]))] H := hP
  have hD : va_D A [(h0, .inr (3, [.ref q_1, .ref q_3, .ref q_5, .ref q_7, .ref q_9, .long 0, .int 0, .int 0, .int 0, .int 0, .long 0, .long 0, .long 0, .int 0, .int 0, .int 0, .int 0])), (q_9, .inl (k_10, 12, .inr (.inr (.inr (.inr (va_up (va_up (va_up (fun _ => none) (0 : Int32).toNatClampNeg (some q_12)) (1 : Int32).toNatClampNeg (some q_14)) (2 : Int32).toNatClampNeg (some q_16))))))), (q_18, .inr (4, [.long 0, .long 0, .long 0, .int 0, .int 0]))] := hD
  have hK : va_K (dC, dI) zc [(k_2, .long), (k_4, .long), (k_6, .int), (k_8, .int), (k_10, .object "StatementCycle$Statement")] s := hK
  refine va_astq hx hb hK hP hD hS 1 4 2 4 rfl rfl rfl rfl (by unfold vp_in; decide) dX1_init_61 (fun H locs hP hD hS => ?_)
  have hP : va_P (dC, dI) zc [(h0, .inr (3, [.ref q_1, .ref q_3, .ref q_5, .ref q_7, .ref q_9, .long 0, .int 0, .int 0, .int 0, .int 0, .long 0, .long 0, .long 0, .int 0, .int 0, .int 0, .int 0])), (q_9, .inl (k_10, 12, .inr (.inr (.inr (.inr (va_up (va_up (va_up (va_up (fun _ => none) (0 : Int32).toNatClampNeg (some q_12)) (1 : Int32).toNatClampNeg (some q_14)) (2 : Int32).toNatClampNeg (some q_16)) (3 : Int32).toNatClampNeg (some q_18))))))), (q_18, .inr (4, [.long 0, .long 0, .long 0, .int 0, .int 0]))] H := hP
  have hD : va_D A [(h0, .inr (3, [.ref q_1, .ref q_3, .ref q_5, .ref q_7, .ref q_9, .long 0, .int 0, .int 0, .int 0, .int 0, .long 0, .long 0, .long 0, .int 0, .int 0, .int 0, .int 0])), (q_9, .inl (k_10, 12, .inr (.inr (.inr (.inr (va_up (va_up (va_up (va_up (fun _ => none) (0 : Int32).toNatClampNeg (some q_12)) (1 : Int32).toNatClampNeg (some q_14)) (2 : Int32).toNatClampNeg (some q_16)) (3 : Int32).toNatClampNeg (some q_18))))))), (q_18, .inr (4, [.long 0, .long 0, .long 0, .int 0, .int 0]))] := hD
  have hP : va_P (dC, dI) zc [(h0, .inr (3, [.ref q_1, .ref q_3, .ref q_5, .ref q_7, .ref q_9, .long 0, .int 0, .int 0, .int 0, .int 0, .long 0, .long 0, .long 0, .int 0, .int 0, .int 0, .int 0])), (q_9, .inl (k_10, 12, .inr (.inr (.inr (.inr (va_up (va_up (va_up (va_up (fun _ => none) (0 : Int32).toNatClampNeg (some q_12)) (1 : Int32).toNatClampNeg (some q_14)) (2 : Int32).toNatClampNeg (some q_16)) (3 : Int32).toNatClampNeg (some q_18)))))))] H := hP.sub [0, 1] rfl
  have hD : va_D A [(h0, .inr (3, [.ref q_1, .ref q_3, .ref q_5, .ref q_7, .ref q_9, .long 0, .int 0, .int 0, .int 0, .int 0, .long 0, .long 0, .long 0, .int 0, .int 0, .int 0, .int 0])), (q_9, .inl (k_10, 12, .inr (.inr (.inr (.inr (va_up (va_up (va_up (va_up (fun _ => none) (0 : Int32).toNatClampNeg (some q_12)) (1 : Int32).toNatClampNeg (some q_14)) (2 : Int32).toNatClampNeg (some q_16)) (3 : Int32).toNatClampNeg (some q_18)))))))] := hD.sub [0, 1] (by decide) rfl
  refine lv_iinc (v := 4) (lv' := [(1, .int 4), (0, .ref h0)]) hx hb dX1_init_62 hl (k := 0) rfl (by decide) (by decide) rfl (fun ls hl => ?_)
  refine lv_goto (tgt := 43) hx hb dX1_init_65 (by decide) ?_
  refine lv_iload_n hx hb dX1_init_43 rfl (lv_at hl 0 rfl) ?_
  refine lv_bipush (v := 12) hx hb dX1_init_44 (by decide) ?_
  refine lv_icmp_ge (tgt := 68) hx hb dX1_init_46 (by decide) (fun c_19 => absurd c_19 (by decide)) (fun c_19 => ?_)
  refine lv_aload_n hx hb dX1_init_49 rfl (lv_at hl 1 rfl) ?_
  refine va_get (D := (dC, dI)) (ci := 3) (v := .ref q_9) (C := RX1) (T := TX1) (N := 17) hx hb hts iX1 hown hK hP 0 rfl rfl 4 (by decide) (hts _ kw_186) (fun _ h9 => h9) rfl dX1_init_50 ?_
  refine lv_iload_n hx hb dX1_init_53 rfl (lv_at hl 0 rfl) ?_
  refine va_new (ci := 4) (fs := [.long 0, .long 0, .long 0, .int 0, .int 0]) (C := RX3) (T := TX3) (N := 5) hx hb hts iX3 tyX3 tyX3_ok hown (hts _ kw_146) (hts _ kw_148) (hts _ kw_69) hK hP hD hS hA rfl z_dfX3 (zl_b rfl) (zl_b rfl) dX1_init_54 (fun q_20 H hP hD hS => ?_)
  have hP : va_P (dC, dI) zc [(h0, .inr (3, [.ref q_1, .ref q_3, .ref q_5, .ref q_7, .ref q_9, .long 0, .int 0, .int 0, .int 0, .int 0, .long 0, .long 0, .long 0, .int 0, .int 0, .int 0, .int 0])), (q_9, .inl (k_10, 12, .inr (.inr (.inr (.inr (va_up (va_up (va_up (va_up (fun _ => none) (0 : Int32).toNatClampNeg (some q_12)) (1 : Int32).toNatClampNeg (some q_14)) (2 : Int32).toNatClampNeg (some q_16)) (3 : Int32).toNatClampNeg (some q_18))))))), (q_20, .inr (4, [.long 0, .long 0, .long 0, .int 0, .int 0]))] H := hP
  have hD : va_D A [(h0, .inr (3, [.ref q_1, .ref q_3, .ref q_5, .ref q_7, .ref q_9, .long 0, .int 0, .int 0, .int 0, .int 0, .long 0, .long 0, .long 0, .int 0, .int 0, .int 0, .int 0])), (q_9, .inl (k_10, 12, .inr (.inr (.inr (.inr (va_up (va_up (va_up (va_up (fun _ => none) (0 : Int32).toNatClampNeg (some q_12)) (1 : Int32).toNatClampNeg (some q_14)) (2 : Int32).toNatClampNeg (some q_16)) (3 : Int32).toNatClampNeg (some q_18))))))), (q_20, .inr (4, [.long 0, .long 0, .long 0, .int 0, .int 0]))] := hD
  refine W.widen (k := 10) (n := 49) (zl_b rfl) (zl_b rfl) ?_
  refine lv_dup hx hb dX1_init_57 rfl ?_
  have hFc := va_free (wc := [(q_20, .inr (4, [.long 0, .long 0, .long 0, .int 0, .int 0]))]) hD hS hA [2] rfl
  refine va_callv (va_runIN (As := []) (rest := [.ref q_20, .int 4, .ref q_9]) ⟨hx, hb, hml, hown, hts⟩ (c_St_init l dC dI H.size t q_20) ⟨va_cnB 0 hts (zg_c kw_151) rfl rfl rfl (zT_nX1_31 hQ.1) (hts _ kw_69) (by decide +kernel) ⟨Nat.le_of_ble_eq_true rfl, Nat.le_of_ble_eq_true rfl⟩, rfl, (hts _ kw_150)⟩ ⟨zA_blind, zA_pre hP hD hS hK hQ hA [2] rfl rfl (by decide) [] rfl⟩ rfl rfl hl.1 rfl (lv_room (Nat.le_of_ble_eq_true rfl)) dX1_init_58 ⟨zl_b rfl, zl_b rfl⟩) hS (fun q _ h => hFc q h) hFc (fun u t9 H1 locs ht hvm hw hB hz1 hk1 hS => ?_)
  obtain ⟨hP1, hK1, hD1⟩ := hB
  rw [ht] at hP1
  have hK1 := va_K.moved hvm.symm hK1
  obtain ⟨hP, hD⟩ := va_join (wr := [(h0, .inr (3, [.ref q_1, .ref q_3, .ref q_5, .ref q_7, .ref q_9, .long 0, .int 0, .int 0, .int 0, .int 0, .long 0, .long 0, .long 0, .int 0, .int 0, .int 0, .int 0])), (q_9, .inl (k_10, 12, .inr (.inr (.inr (.inr (va_up (va_up (va_up (va_up (fun _ => none) (0 : Int32).toNatClampNeg (some q_12)) (1 : Int32).toNatClampNeg (some q_14)) (2 : Int32).toNatClampNeg (some q_16)) (3 : Int32).toNatClampNeg (some q_18)))))))]) (w1 := [(q_20, .inr (4, [.long 0, .long 0, .long 0, .int 0, .int 0]))]) hP hD [2] [0, 1] rfl rfl (by decide) (by decide) hk1 hFc hP1 hD1
  have hK := (hK.sub (tys' := [(k_2, .long), (k_4, .long), (k_6, .int), (k_8, .int), (k_10, .object "StatementCycle$Statement")]) [0, 1, 2, 3, 4] rfl).app hK1
  generalize H1 = H at hP hS ⊢
  have hP : va_P (dC, dI) zc [(h0, .inr (3, [.ref q_1, .ref q_3, .ref q_5, .ref q_7, .ref q_9, .long 0, .int 0, .int 0, .int 0, .int 0, .long 0, .long 0, .long 0, .int 0, .int 0, .int 0, .int 0])), (q_9, .inl (k_10, 12, .inr (.inr (.inr (.inr (va_up (va_up (va_up (va_up (fun _ => none) (0 : Int32).toNatClampNeg (some q_12)) (1 : Int32).toNatClampNeg (some q_14)) (2 : Int32).toNatClampNeg (some q_16)) (3 : Int32).toNatClampNeg (some q_18))))))), (q_20, .inr (4, [.long 0, .long 0, .long 0, .int 0, .int 0]))] H := hP
  have hD : va_D A [(h0, .inr (3, [.ref q_1, .ref q_3, .ref q_5, .ref q_7, .ref q_9, .long 0, .int 0, .int 0, .int 0, .int 0, .long 0, .long 0, .long 0, .int 0, .int 0, .int 0, .int 0])), (q_9, .inl (k_10, 12, .inr (.inr (.inr (.inr (va_up (va_up (va_up (va_up (fun _ => none) (0 : Int32).toNatClampNeg (some q_12)) (1 : Int32).toNatClampNeg (some q_14)) (2 : Int32).toNatClampNeg (some q_16)) (3 : Int32).toNatClampNeg (some q_18))))))), (q_20, .inr (4, [.long 0, .long 0, .long 0, .int 0, .int 0]))] := hD
  have hK : va_K (dC, dI) zc [(k_2, .long), (k_4, .long), (k_6, .int), (k_8, .int), (k_10, .object "StatementCycle$Statement")] s := hK
  refine va_astq hx hb hK hP hD hS 1 4 2 4 rfl rfl rfl rfl (by unfold vp_in; decide) dX1_init_61 (fun H locs hP hD hS => ?_)
  have hP : va_P (dC, dI) zc [(h0, .inr (3, [.ref q_1, .ref q_3, .ref q_5, .ref q_7, .ref q_9, .long 0, .int 0, .int 0, .int 0, .int 0, .long 0, .long 0, .long 0, .int 0, .int 0, .int 0, .int 0])), (q_9, .inl (k_10, 12, .inr (.inr (.inr (.inr (va_up (va_up (va_up (va_up (va_up (fun _ => none) (0 : Int32).toNatClampNeg (some q_12)) (1 : Int32).toNatClampNeg (some q_14)) (2 : Int32).toNatClampNeg (some q_16)) (3 : Int32).toNatClampNeg (some q_18)) (4 : Int32).toNatClampNeg (some q_20))))))), (q_20, .inr (4, [.long 0, .long 0, .long 0, .int 0, .int 0]))] H := hP
  have hD : va_D A [(h0, .inr (3, [.ref q_1, .ref q_3, .ref q_5, .ref q_7, .ref q_9, .long 0, .int 0, .int 0, .int 0, .int 0, .long 0, .long 0, .long 0, .int 0, .int 0, .int 0, .int 0])), (q_9, .inl (k_10, 12, .inr (.inr (.inr (.inr (va_up (va_up (va_up (va_up (va_up (fun _ => none) (0 : Int32).toNatClampNeg (some q_12)) (1 : Int32).toNatClampNeg (some q_14)) (2 : Int32).toNatClampNeg (some q_16)) (3 : Int32).toNatClampNeg (some q_18)) (4 : Int32).toNatClampNeg (some q_20))))))), (q_20, .inr (4, [.long 0, .long 0, .long 0, .int 0, .int 0]))] := hD
  have hP : va_P (dC, dI) zc [(h0, .inr (3, [.ref q_1, .ref q_3, .ref q_5, .ref q_7, .ref q_9, .long 0, .int 0, .int 0, .int 0, .int 0, .long 0, .long 0, .long 0, .int 0, .int 0, .int 0, .int 0])), (q_9, .inl (k_10, 12, .inr (.inr (.inr (.inr (va_up (va_up (va_up (va_up (va_up (fun _ => none) (0 : Int32).toNatClampNeg (some q_12)) (1 : Int32).toNatClampNeg (some q_14)) (2 : Int32).toNatClampNeg (some q_16)) (3 : Int32).toNatClampNeg (some q_18)) (4 : Int32).toNatClampNeg (some q_20)))))))] H := hP.sub [0, 1] rfl
  have hD : va_D A [(h0, .inr (3, [.ref q_1, .ref q_3, .ref q_5, .ref q_7, .ref q_9, .long 0, .int 0, .int 0, .int 0, .int 0, .long 0, .long 0, .long 0, .int 0, .int 0, .int 0, .int 0])), (q_9, .inl (k_10, 12, .inr (.inr (.inr (.inr (va_up (va_up (va_up (va_up (va_up (fun _ => none) (0 : Int32).toNatClampNeg (some q_12)) (1 : Int32).toNatClampNeg (some q_14)) (2 : Int32).toNatClampNeg (some q_16)) (3 : Int32).toNatClampNeg (some q_18)) (4 : Int32).toNatClampNeg (some q_20)))))))] := hD.sub [0, 1] (by decide) rfl
  refine lv_iinc (v := 5) (lv' := [(1, .int 5), (0, .ref h0)]) hx hb dX1_init_62 hl (k := 0) rfl (by decide) (by decide) rfl (fun ls hl => ?_)
  refine lv_goto (tgt := 43) hx hb dX1_init_65 (by decide) ?_
  refine lv_iload_n hx hb dX1_init_43 rfl (lv_at hl 0 rfl) ?_
  refine lv_bipush (v := 12) hx hb dX1_init_44 (by decide) ?_
  refine lv_icmp_ge (tgt := 68) hx hb dX1_init_46 (by decide) (fun c_21 => absurd c_21 (by decide)) (fun c_21 => ?_)
  refine lv_aload_n hx hb dX1_init_49 rfl (lv_at hl 1 rfl) ?_
  refine va_get (D := (dC, dI)) (ci := 3) (v := .ref q_9) (C := RX1) (T := TX1) (N := 17) hx hb hts iX1 hown hK hP 0 rfl rfl 4 (by decide) (hts _ kw_186) (fun _ h9 => h9) rfl dX1_init_50 ?_
  refine lv_iload_n hx hb dX1_init_53 rfl (lv_at hl 0 rfl) ?_
  refine va_new (ci := 4) (fs := [.long 0, .long 0, .long 0, .int 0, .int 0]) (C := RX3) (T := TX3) (N := 5) hx hb hts iX3 tyX3 tyX3_ok hown (hts _ kw_146) (hts _ kw_148) (hts _ kw_69) hK hP hD hS hA rfl z_dfX3 (zl_b rfl) (zl_b rfl) dX1_init_54 (fun q_22 H hP hD hS => ?_)
  have hP : va_P (dC, dI) zc [(h0, .inr (3, [.ref q_1, .ref q_3, .ref q_5, .ref q_7, .ref q_9, .long 0, .int 0, .int 0, .int 0, .int 0, .long 0, .long 0, .long 0, .int 0, .int 0, .int 0, .int 0])), (q_9, .inl (k_10, 12, .inr (.inr (.inr (.inr (va_up (va_up (va_up (va_up (va_up (fun _ => none) (0 : Int32).toNatClampNeg (some q_12)) (1 : Int32).toNatClampNeg (some q_14)) (2 : Int32).toNatClampNeg (some q_16)) (3 : Int32).toNatClampNeg (some q_18)) (4 : Int32).toNatClampNeg (some q_20))))))), (q_22, .inr (4, [.long 0, .long 0, .long 0, .int 0, .int 0]))] H := hP
  have hD : va_D A [(h0, .inr (3, [.ref q_1, .ref q_3, .ref q_5, .ref q_7, .ref q_9, .long 0, .int 0, .int 0, .int 0, .int 0, .long 0, .long 0, .long 0, .int 0, .int 0, .int 0, .int 0])), (q_9, .inl (k_10, 12, .inr (.inr (.inr (.inr (va_up (va_up (va_up (va_up (va_up (fun _ => none) (0 : Int32).toNatClampNeg (some q_12)) (1 : Int32).toNatClampNeg (some q_14)) (2 : Int32).toNatClampNeg (some q_16)) (3 : Int32).toNatClampNeg (some q_18)) (4 : Int32).toNatClampNeg (some q_20))))))), (q_22, .inr (4, [.long 0, .long 0, .long 0, .int 0, .int 0]))] := hD
  refine W.widen (k := 11) (n := 54) (zl_b rfl) (zl_b rfl) ?_
  refine lv_dup hx hb dX1_init_57 rfl ?_
  have hFc := va_free (wc := [(q_22, .inr (4, [.long 0, .long 0, .long 0, .int 0, .int 0]))]) hD hS hA [2] rfl
  refine va_callv (va_runIN (As := []) (rest := [.ref q_22, .int 5, .ref q_9]) ⟨hx, hb, hml, hown, hts⟩ (c_St_init l dC dI H.size t q_22) ⟨va_cnB 0 hts (zg_c kw_151) rfl rfl rfl (zT_nX1_31 hQ.1) (hts _ kw_69) (by decide +kernel) ⟨Nat.le_of_ble_eq_true rfl, Nat.le_of_ble_eq_true rfl⟩, rfl, (hts _ kw_150)⟩ ⟨zA_blind, zA_pre hP hD hS hK hQ hA [2] rfl rfl (by decide) [] rfl⟩ rfl rfl hl.1 rfl (lv_room (Nat.le_of_ble_eq_true rfl)) dX1_init_58 ⟨zl_b rfl, zl_b rfl⟩) hS (fun q _ h => hFc q h) hFc (fun u t9 H1 locs ht hvm hw hB hz1 hk1 hS => ?_)
  obtain ⟨hP1, hK1, hD1⟩ := hB
  rw [ht] at hP1
  have hK1 := va_K.moved hvm.symm hK1
  obtain ⟨hP, hD⟩ := va_join (wr := [(h0, .inr (3, [.ref q_1, .ref q_3, .ref q_5, .ref q_7, .ref q_9, .long 0, .int 0, .int 0, .int 0, .int 0, .long 0, .long 0, .long 0, .int 0, .int 0, .int 0, .int 0])), (q_9, .inl (k_10, 12, .inr (.inr (.inr (.inr (va_up (va_up (va_up (va_up (va_up (fun _ => none) (0 : Int32).toNatClampNeg (some q_12)) (1 : Int32).toNatClampNeg (some q_14)) (2 : Int32).toNatClampNeg (some q_16)) (3 : Int32).toNatClampNeg (some q_18)) (4 : Int32).toNatClampNeg (some q_20)))))))]) (w1 := [(q_22, .inr (4, [.long 0, .long 0, .long 0, .int 0, .int 0]))]) hP hD [2] [0, 1] rfl rfl (by decide) (by decide) hk1 hFc hP1 hD1
  have hK := (hK.sub (tys' := [(k_2, .long), (k_4, .long), (k_6, .int), (k_8, .int), (k_10, .object "StatementCycle$Statement")]) [0, 1, 2, 3, 4] rfl).app hK1
  generalize H1 = H at hP hS ⊢
  have hP : va_P (dC, dI) zc [(h0, .inr (3, [.ref q_1, .ref q_3, .ref q_5, .ref q_7, .ref q_9, .long 0, .int 0, .int 0, .int 0, .int 0, .long 0, .long 0, .long 0, .int 0, .int 0, .int 0, .int 0])), (q_9, .inl (k_10, 12, .inr (.inr (.inr (.inr (va_up (va_up (va_up (va_up (va_up (fun _ => none) (0 : Int32).toNatClampNeg (some q_12)) (1 : Int32).toNatClampNeg (some q_14)) (2 : Int32).toNatClampNeg (some q_16)) (3 : Int32).toNatClampNeg (some q_18)) (4 : Int32).toNatClampNeg (some q_20))))))), (q_22, .inr (4, [.long 0, .long 0, .long 0, .int 0, .int 0]))] H := hP
  have hD : va_D A [(h0, .inr (3, [.ref q_1, .ref q_3, .ref q_5, .ref q_7, .ref q_9, .long 0, .int 0, .int 0, .int 0, .int 0, .long 0, .long 0, .long 0, .int 0, .int 0, .int 0, .int 0])), (q_9, .inl (k_10, 12, .inr (.inr (.inr (.inr (va_up (va_up (va_up (va_up (va_up (fun _ => none) (0 : Int32).toNatClampNeg (some q_12)) (1 : Int32).toNatClampNeg (some q_14)) (2 : Int32).toNatClampNeg (some q_16)) (3 : Int32).toNatClampNeg (some q_18)) (4 : Int32).toNatClampNeg (some q_20))))))), (q_22, .inr (4, [.long 0, .long 0, .long 0, .int 0, .int 0]))] := hD
  have hK : va_K (dC, dI) zc [(k_2, .long), (k_4, .long), (k_6, .int), (k_8, .int), (k_10, .object "StatementCycle$Statement")] s := hK
  refine va_astq hx hb hK hP hD hS 1 4 2 4 rfl rfl rfl rfl (by unfold vp_in; decide) dX1_init_61 (fun H locs hP hD hS => ?_)
  have hP : va_P (dC, dI) zc [(h0, .inr (3, [.ref q_1, .ref q_3, .ref q_5, .ref q_7, .ref q_9, .long 0, .int 0, .int 0, .int 0, .int 0, .long 0, .long 0, .long 0, .int 0, .int 0, .int 0, .int 0])), (q_9, .inl (k_10, 12, .inr (.inr (.inr (.inr (va_up (va_up (va_up (va_up (va_up (va_up (fun _ => none) (0 : Int32).toNatClampNeg (some q_12)) (1 : Int32).toNatClampNeg (some q_14)) (2 : Int32).toNatClampNeg (some q_16)) (3 : Int32).toNatClampNeg (some q_18)) (4 : Int32).toNatClampNeg (some q_20)) (5 : Int32).toNatClampNeg (some q_22))))))), (q_22, .inr (4, [.long 0, .long 0, .long 0, .int 0, .int 0]))] H := hP
  have hD : va_D A [(h0, .inr (3, [.ref q_1, .ref q_3, .ref q_5, .ref q_7, .ref q_9, .long 0, .int 0, .int 0, .int 0, .int 0, .long 0, .long 0, .long 0, .int 0, .int 0, .int 0, .int 0])), (q_9, .inl (k_10, 12, .inr (.inr (.inr (.inr (va_up (va_up (va_up (va_up (va_up (va_up (fun _ => none) (0 : Int32).toNatClampNeg (some q_12)) (1 : Int32).toNatClampNeg (some q_14)) (2 : Int32).toNatClampNeg (some q_16)) (3 : Int32).toNatClampNeg (some q_18)) (4 : Int32).toNatClampNeg (some q_20)) (5 : Int32).toNatClampNeg (some q_22))))))), (q_22, .inr (4, [.long 0, .long 0, .long 0, .int 0, .int 0]))] := hD
  have hP : va_P (dC, dI) zc [(h0, .inr (3, [.ref q_1, .ref q_3, .ref q_5, .ref q_7, .ref q_9, .long 0, .int 0, .int 0, .int 0, .int 0, .long 0, .long 0, .long 0, .int 0, .int 0, .int 0, .int 0])), (q_9, .inl (k_10, 12, .inr (.inr (.inr (.inr (va_up (va_up (va_up (va_up (va_up (va_up (fun _ => none) (0 : Int32).toNatClampNeg (some q_12)) (1 : Int32).toNatClampNeg (some q_14)) (2 : Int32).toNatClampNeg (some q_16)) (3 : Int32).toNatClampNeg (some q_18)) (4 : Int32).toNatClampNeg (some q_20)) (5 : Int32).toNatClampNeg (some q_22)))))))] H := hP.sub [0, 1] rfl
  have hD : va_D A [(h0, .inr (3, [.ref q_1, .ref q_3, .ref q_5, .ref q_7, .ref q_9, .long 0, .int 0, .int 0, .int 0, .int 0, .long 0, .long 0, .long 0, .int 0, .int 0, .int 0, .int 0])), (q_9, .inl (k_10, 12, .inr (.inr (.inr (.inr (va_up (va_up (va_up (va_up (va_up (va_up (fun _ => none) (0 : Int32).toNatClampNeg (some q_12)) (1 : Int32).toNatClampNeg (some q_14)) (2 : Int32).toNatClampNeg (some q_16)) (3 : Int32).toNatClampNeg (some q_18)) (4 : Int32).toNatClampNeg (some q_20)) (5 : Int32).toNatClampNeg (some q_22)))))))] := hD.sub [0, 1] (by decide) rfl
  refine lv_iinc (v := 6) (lv' := [(1, .int 6), (0, .ref h0)]) hx hb dX1_init_62 hl (k := 0) rfl (by decide) (by decide) rfl (fun ls hl => ?_)
  refine lv_goto (tgt := 43) hx hb dX1_init_65 (by decide) ?_
  refine lv_iload_n hx hb dX1_init_43 rfl (lv_at hl 0 rfl) ?_
  refine lv_bipush (v := 12) hx hb dX1_init_44 (by decide) ?_
  refine lv_icmp_ge (tgt := 68) hx hb dX1_init_46 (by decide) (fun c_23 => absurd c_23 (by decide)) (fun c_23 => ?_)
  refine lv_aload_n hx hb dX1_init_49 rfl (lv_at hl 1 rfl) ?_
  refine va_get (D := (dC, dI)) (ci := 3) (v := .ref q_9) (C := RX1) (T := TX1) (N := 17) hx hb hts iX1 hown hK hP 0 rfl rfl 4 (by decide) (hts _ kw_186) (fun _ h9 => h9) rfl dX1_init_50 ?_
  refine lv_iload_n hx hb dX1_init_53 rfl (lv_at hl 0 rfl) ?_
  refine va_new (ci := 4) (fs := [.long 0, .long 0, .long 0, .int 0, .int 0]) (C := RX3) (T := TX3) (N := 5) hx hb hts iX3 tyX3 tyX3_ok hown (hts _ kw_146) (hts _ kw_148) (hts _ kw_69) hK hP hD hS hA rfl z_dfX3 (zl_b rfl) (zl_b rfl) dX1_init_54 (fun q_24 H hP hD hS => ?_)
  have hP : va_P (dC, dI) zc [(h0, .inr (3, [.ref q_1, .ref q_3, .ref q_5, .ref q_7, .ref q_9, .long 0, .int 0, .int 0, .int 0, .int 0, .long 0, .long 0, .long 0, .int 0, .int 0, .int 0, .int 0])), (q_9, .inl (k_10, 12, .inr (.inr (.inr (.inr (va_up (va_up (va_up (va_up (va_up (va_up (fun _ => none) (0 : Int32).toNatClampNeg (some q_12)) (1 : Int32).toNatClampNeg (some q_14)) (2 : Int32).toNatClampNeg (some q_16)) (3 : Int32).toNatClampNeg (some q_18)) (4 : Int32).toNatClampNeg (some q_20)) (5 : Int32).toNatClampNeg (some q_22))))))), (q_24, .inr (4, [.long 0, .long 0, .long 0, .int 0, .int 0]))] H := hP
  have hD : va_D A [(h0, .inr (3, [.ref q_1, .ref q_3, .ref q_5, .ref q_7, .ref q_9, .long 0, .int 0, .int 0, .int 0, .int 0, .long 0, .long 0, .long 0, .int 0, .int 0, .int 0, .int 0])), (q_9, .inl (k_10, 12, .inr (.inr (.inr (.inr (va_up (va_up (va_up (va_up (va_up (va_up (fun _ => none) (0 : Int32).toNatClampNeg (some q_12)) (1 : Int32).toNatClampNeg (some q_14)) (2 : Int32).toNatClampNeg (some q_16)) (3 : Int32).toNatClampNeg (some q_18)) (4 : Int32).toNatClampNeg (some q_20)) (5 : Int32).toNatClampNeg (some q_22))))))), (q_24, .inr (4, [.long 0, .long 0, .long 0, .int 0, .int 0]))] := hD
  refine W.widen (k := 12) (n := 59) (zl_b rfl) (zl_b rfl) ?_
  refine lv_dup hx hb dX1_init_57 rfl ?_
  have hFc := va_free (wc := [(q_24, .inr (4, [.long 0, .long 0, .long 0, .int 0, .int 0]))]) hD hS hA [2] rfl
  refine va_callv (va_runIN (As := []) (rest := [.ref q_24, .int 6, .ref q_9]) ⟨hx, hb, hml, hown, hts⟩ (c_St_init l dC dI H.size t q_24) ⟨va_cnB 0 hts (zg_c kw_151) rfl rfl rfl (zT_nX1_31 hQ.1) (hts _ kw_69) (by decide +kernel) ⟨Nat.le_of_ble_eq_true rfl, Nat.le_of_ble_eq_true rfl⟩, rfl, (hts _ kw_150)⟩ ⟨zA_blind, zA_pre hP hD hS hK hQ hA [2] rfl rfl (by decide) [] rfl⟩ rfl rfl hl.1 rfl (lv_room (Nat.le_of_ble_eq_true rfl)) dX1_init_58 ⟨zl_b rfl, zl_b rfl⟩) hS (fun q _ h => hFc q h) hFc (fun u t9 H1 locs ht hvm hw hB hz1 hk1 hS => ?_)
  obtain ⟨hP1, hK1, hD1⟩ := hB
  rw [ht] at hP1
  have hK1 := va_K.moved hvm.symm hK1
  obtain ⟨hP, hD⟩ := va_join (wr := [(h0, .inr (3, [.ref q_1, .ref q_3, .ref q_5, .ref q_7, .ref q_9, .long 0, .int 0, .int 0, .int 0, .int 0, .long 0, .long 0, .long 0, .int 0, .int 0, .int 0, .int 0])), (q_9, .inl (k_10, 12, .inr (.inr (.inr (.inr (va_up (va_up (va_up (va_up (va_up (va_up (fun _ => none) (0 : Int32).toNatClampNeg (some q_12)) (1 : Int32).toNatClampNeg (some q_14)) (2 : Int32).toNatClampNeg (some q_16)) (3 : Int32).toNatClampNeg (some q_18)) (4 : Int32).toNatClampNeg (some q_20)) (5 : Int32).toNatClampNeg (some q_22)))))))]) (w1 := [(q_24, .inr (4, [.long 0, .long 0, .long 0, .int 0, .int 0]))]) hP hD [2] [0, 1] rfl rfl (by decide) (by decide) hk1 hFc hP1 hD1
  have hK := (hK.sub (tys' := [(k_2, .long), (k_4, .long), (k_6, .int), (k_8, .int), (k_10, .object "StatementCycle$Statement")]) [0, 1, 2, 3, 4] rfl).app hK1
  generalize H1 = H at hP hS ⊢
  have hP : va_P (dC, dI) zc [(h0, .inr (3, [.ref q_1, .ref q_3, .ref q_5, .ref q_7, .ref q_9, .long 0, .int 0, .int 0, .int 0, .int 0, .long 0, .long 0, .long 0, .int 0, .int 0, .int 0, .int 0])), (q_9, .inl (k_10, 12, .inr (.inr (.inr (.inr (va_up (va_up (va_up (va_up (va_up (va_up (fun _ => none) (0 : Int32).toNatClampNeg (some q_12)) (1 : Int32).toNatClampNeg (some q_14)) (2 : Int32).toNatClampNeg (some q_16)) (3 : Int32).toNatClampNeg (some q_18)) (4 : Int32).toNatClampNeg (some q_20)) (5 : Int32).toNatClampNeg (some q_22))))))), (q_24, .inr (4, [.long 0, .long 0, .long 0, .int 0, .int 0]))] H := hP
  have hD : va_D A [(h0, .inr (3, [.ref q_1, .ref q_3, .ref q_5, .ref q_7, .ref q_9, .long 0, .int 0, .int 0, .int 0, .int 0, .long 0, .long 0, .long 0, .int 0, .int 0, .int 0, .int 0])), (q_9, .inl (k_10, 12, .inr (.inr (.inr (.inr (va_up (va_up (va_up (va_up (va_up (va_up (fun _ => none) (0 : Int32).toNatClampNeg (some q_12)) (1 : Int32).toNatClampNeg (some q_14)) (2 : Int32).toNatClampNeg (some q_16)) (3 : Int32).toNatClampNeg (some q_18)) (4 : Int32).toNatClampNeg (some q_20)) (5 : Int32).toNatClampNeg (some q_22))))))), (q_24, .inr (4, [.long 0, .long 0, .long 0, .int 0, .int 0]))] := hD
  have hK : va_K (dC, dI) zc [(k_2, .long), (k_4, .long), (k_6, .int), (k_8, .int), (k_10, .object "StatementCycle$Statement")] s := hK
  refine va_astq hx hb hK hP hD hS 1 4 2 4 rfl rfl rfl rfl (by unfold vp_in; decide) dX1_init_61 (fun H locs hP hD hS => ?_)
  have hP : va_P (dC, dI) zc [(h0, .inr (3, [.ref q_1, .ref q_3, .ref q_5, .ref q_7, .ref q_9, .long 0, .int 0, .int 0, .int 0, .int 0, .long 0, .long 0, .long 0, .int 0, .int 0, .int 0, .int 0])), (q_9, .inl (k_10, 12, .inr (.inr (.inr (.inr (va_up (va_up (va_up (va_up (va_up (va_up (va_up (fun _ => none) (0 : Int32).toNatClampNeg (some q_12)) (1 : Int32).toNatClampNeg (some q_14)) (2 : Int32).toNatClampNeg (some q_16)) (3 : Int32).toNatClampNeg (some q_18)) (4 : Int32).toNatClampNeg (some q_20)) (5 : Int32).toNatClampNeg (some q_22)) (6 : Int32).toNatClampNeg (some q_24))))))), (q_24, .inr (4, [.long 0, .long 0, .long 0, .int 0, .int 0]))] H := hP
  have hD : va_D A [(h0, .inr (3, [.ref q_1, .ref q_3, .ref q_5, .ref q_7, .ref q_9, .long 0, .int 0, .int 0, .int 0, .int 0, .long 0, .long 0, .long 0, .int 0, .int 0, .int 0, .int 0])), (q_9, .inl (k_10, 12, .inr (.inr (.inr (.inr (va_up (va_up (va_up (va_up (va_up (va_up (va_up (fun _ => none) (0 : Int32).toNatClampNeg (some q_12)) (1 : Int32).toNatClampNeg (some q_14)) (2 : Int32).toNatClampNeg (some q_16)) (3 : Int32).toNatClampNeg (some q_18)) (4 : Int32).toNatClampNeg (some q_20)) (5 : Int32).toNatClampNeg (some q_22)) (6 : Int32).toNatClampNeg (some q_24))))))), (q_24, .inr (4, [.long 0, .long 0, .long 0, .int 0, .int 0]))] := hD
  have hP : va_P (dC, dI) zc [(h0, .inr (3, [.ref q_1, .ref q_3, .ref q_5, .ref q_7, .ref q_9, .long 0, .int 0, .int 0, .int 0, .int 0, .long 0, .long 0, .long 0, .int 0, .int 0, .int 0, .int 0])), (q_9, .inl (k_10, 12, .inr (.inr (.inr (.inr (va_up (va_up (va_up (va_up (va_up (va_up (va_up (fun _ => none) (0 : Int32).toNatClampNeg (some q_12)) (1 : Int32).toNatClampNeg (some q_14)) (2 : Int32).toNatClampNeg (some q_16)) (3 : Int32).toNatClampNeg (some q_18)) (4 : Int32).toNatClampNeg (some q_20)) (5 : Int32).toNatClampNeg (some q_22)) (6 : Int32).toNatClampNeg (some q_24)))))))] H := hP.sub [0, 1] rfl
  have hD : va_D A [(h0, .inr (3, [.ref q_1, .ref q_3, .ref q_5, .ref q_7, .ref q_9, .long 0, .int 0, .int 0, .int 0, .int 0, .long 0, .long 0, .long 0, .int 0, .int 0, .int 0, .int 0])), (q_9, .inl (k_10, 12, .inr (.inr (.inr (.inr (va_up (va_up (va_up (va_up (va_up (va_up (va_up (fun _ => none) (0 : Int32).toNatClampNeg (some q_12)) (1 : Int32).toNatClampNeg (some q_14)) (2 : Int32).toNatClampNeg (some q_16)) (3 : Int32).toNatClampNeg (some q_18)) (4 : Int32).toNatClampNeg (some q_20)) (5 : Int32).toNatClampNeg (some q_22)) (6 : Int32).toNatClampNeg (some q_24)))))))] := hD.sub [0, 1] (by decide) rfl
  refine lv_iinc (v := 7) (lv' := [(1, .int 7), (0, .ref h0)]) hx hb dX1_init_62 hl (k := 0) rfl (by decide) (by decide) rfl (fun ls hl => ?_)
  refine lv_goto (tgt := 43) hx hb dX1_init_65 (by decide) ?_
  refine lv_iload_n hx hb dX1_init_43 rfl (lv_at hl 0 rfl) ?_
  refine lv_bipush (v := 12) hx hb dX1_init_44 (by decide) ?_
  refine lv_icmp_ge (tgt := 68) hx hb dX1_init_46 (by decide) (fun c_25 => absurd c_25 (by decide)) (fun c_25 => ?_)
  refine lv_aload_n hx hb dX1_init_49 rfl (lv_at hl 1 rfl) ?_
  refine va_get (D := (dC, dI)) (ci := 3) (v := .ref q_9) (C := RX1) (T := TX1) (N := 17) hx hb hts iX1 hown hK hP 0 rfl rfl 4 (by decide) (hts _ kw_186) (fun _ h9 => h9) rfl dX1_init_50 ?_
  refine lv_iload_n hx hb dX1_init_53 rfl (lv_at hl 0 rfl) ?_
  refine va_new (ci := 4) (fs := [.long 0, .long 0, .long 0, .int 0, .int 0]) (C := RX3) (T := TX3) (N := 5) hx hb hts iX3 tyX3 tyX3_ok hown (hts _ kw_146) (hts _ kw_148) (hts _ kw_69) hK hP hD hS hA rfl z_dfX3 (zl_b rfl) (zl_b rfl) dX1_init_54 (fun q_26 H hP hD hS => ?_)
  have hP : va_P (dC, dI) zc [(h0, .inr (3, [.ref q_1, .ref q_3, .ref q_5, .ref q_7, .ref q_9, .long 0, .int 0, .int 0, .int 0, .int 0, .long 0, .long 0, .long 0, .int 0, .int 0, .int 0, .int 0])), (q_9, .inl (k_10, 12, .inr (.inr (.inr (.inr (va_up (va_up (va_up (va_up (va_up (va_up (va_up (fun _ => none) (0 : Int32).toNatClampNeg (some q_12)) (1 : Int32).toNatClampNeg (some q_14)) (2 : Int32).toNatClampNeg (some q_16)) (3 : Int32).toNatClampNeg (some q_18)) (4 : Int32).toNatClampNeg (some q_20)) (5 : Int32).toNatClampNeg (some q_22)) (6 : Int32).toNatClampNeg (some q_24))))))), (q_26, .inr (4, [.long 0, .long 0, .long 0, .int 0, .int 0]))] H := hP
  have hD : va_D A [(h0, .inr (3, [.ref q_1, .ref q_3, .ref q_5, .ref q_7, .ref q_9, .long 0, .int 0, .int 0, .int 0, .int 0, .long 0, .long 0, .long 0, .int 0, .int 0, .int 0, .int 0])), (q_9, .inl (k_10, 12, .inr (.inr (.inr (.inr (va_up (va_up (va_up (va_up (va_up (va_up (va_up (fun _ => none) (0 : Int32).toNatClampNeg (some q_12)) (1 : Int32).toNatClampNeg (some q_14)) (2 : Int32).toNatClampNeg (some q_16)) (3 : Int32).toNatClampNeg (some q_18)) (4 : Int32).toNatClampNeg (some q_20)) (5 : Int32).toNatClampNeg (some q_22)) (6 : Int32).toNatClampNeg (some q_24))))))), (q_26, .inr (4, [.long 0, .long 0, .long 0, .int 0, .int 0]))] := hD
  refine W.widen (k := 13) (n := 64) (zl_b rfl) (zl_b rfl) ?_
  refine lv_dup hx hb dX1_init_57 rfl ?_
  have hFc := va_free (wc := [(q_26, .inr (4, [.long 0, .long 0, .long 0, .int 0, .int 0]))]) hD hS hA [2] rfl
  refine va_callv (va_runIN (As := []) (rest := [.ref q_26, .int 7, .ref q_9]) ⟨hx, hb, hml, hown, hts⟩ (c_St_init l dC dI H.size t q_26) ⟨va_cnB 0 hts (zg_c kw_151) rfl rfl rfl (zT_nX1_31 hQ.1) (hts _ kw_69) (by decide +kernel) ⟨Nat.le_of_ble_eq_true rfl, Nat.le_of_ble_eq_true rfl⟩, rfl, (hts _ kw_150)⟩ ⟨zA_blind, zA_pre hP hD hS hK hQ hA [2] rfl rfl (by decide) [] rfl⟩ rfl rfl hl.1 rfl (lv_room (Nat.le_of_ble_eq_true rfl)) dX1_init_58 ⟨zl_b rfl, zl_b rfl⟩) hS (fun q _ h => hFc q h) hFc (fun u t9 H1 locs ht hvm hw hB hz1 hk1 hS => ?_)
  obtain ⟨hP1, hK1, hD1⟩ := hB
  rw [ht] at hP1
  have hK1 := va_K.moved hvm.symm hK1
  obtain ⟨hP, hD⟩ := va_join (wr := [(h0, .inr (3, [.ref q_1, .ref q_3, .ref q_5, .ref q_7, .ref q_9, .long 0, .int 0, .int 0, .int 0, .int 0, .long 0, .long 0, .long 0, .int 0, .int 0, .int 0, .int 0])), (q_9, .inl (k_10, 12, .inr (.inr (.inr (.inr (va_up (va_up (va_up (va_up (va_up (va_up (va_up (fun _ => none) (0 : Int32).toNatClampNeg (some q_12)) (1 : Int32).toNatClampNeg (some q_14)) (2 : Int32).toNatClampNeg (some q_16)) (3 : Int32).toNatClampNeg (some q_18)) (4 : Int32).toNatClampNeg (some q_20)) (5 : Int32).toNatClampNeg (some q_22)) (6 : Int32).toNatClampNeg (some q_24)))))))]) (w1 := [(q_26, .inr (4, [.long 0, .long 0, .long 0, .int 0, .int 0]))]) hP hD [2] [0, 1] rfl rfl (by decide) (by decide) hk1 hFc hP1 hD1
  have hK := (hK.sub (tys' := [(k_2, .long), (k_4, .long), (k_6, .int), (k_8, .int), (k_10, .object "StatementCycle$Statement")]) [0, 1, 2, 3, 4] rfl).app hK1
  generalize H1 = H at hP hS ⊢
  have hP : va_P (dC, dI) zc [(h0, .inr (3, [.ref q_1, .ref q_3, .ref q_5, .ref q_7, .ref q_9, .long 0, .int 0, .int 0, .int 0, .int 0, .long 0, .long 0, .long 0, .int 0, .int 0, .int 0, .int 0])), (q_9, .inl (k_10, 12, .inr (.inr (.inr (.inr (va_up (va_up (va_up (va_up (va_up (va_up (va_up (fun _ => none) (0 : Int32).toNatClampNeg (some q_12)) (1 : Int32).toNatClampNeg (some q_14)) (2 : Int32).toNatClampNeg (some q_16)) (3 : Int32).toNatClampNeg (some q_18)) (4 : Int32).toNatClampNeg (some q_20)) (5 : Int32).toNatClampNeg (some q_22)) (6 : Int32).toNatClampNeg (some q_24))))))), (q_26, .inr (4, [.long 0, .long 0, .long 0, .int 0, .int 0]))] H := hP
  have hD : va_D A [(h0, .inr (3, [.ref q_1, .ref q_3, .ref q_5, .ref q_7, .ref q_9, .long 0, .int 0, .int 0, .int 0, .int 0, .long 0, .long 0, .long 0, .int 0, .int 0, .int 0, .int 0])), (q_9, .inl (k_10, 12, .inr (.inr (.inr (.inr (va_up (va_up (va_up (va_up (va_up (va_up (va_up (fun _ => none) (0 : Int32).toNatClampNeg (some q_12)) (1 : Int32).toNatClampNeg (some q_14)) (2 : Int32).toNatClampNeg (some q_16)) (3 : Int32).toNatClampNeg (some q_18)) (4 : Int32).toNatClampNeg (some q_20)) (5 : Int32).toNatClampNeg (some q_22)) (6 : Int32).toNatClampNeg (some q_24))))))), (q_26, .inr (4, [.long 0, .long 0, .long 0, .int 0, .int 0]))] := hD
  have hK : va_K (dC, dI) zc [(k_2, .long), (k_4, .long), (k_6, .int), (k_8, .int), (k_10, .object "StatementCycle$Statement")] s := hK
  refine va_astq hx hb hK hP hD hS 1 4 2 4 rfl rfl rfl rfl (by unfold vp_in; decide) dX1_init_61 (fun H locs hP hD hS => ?_)
  have hP : va_P (dC, dI) zc [(h0, .inr (3, [.ref q_1, .ref q_3, .ref q_5, .ref q_7, .ref q_9, .long 0, .int 0, .int 0, .int 0, .int 0, .long 0, .long 0, .long 0, .int 0, .int 0, .int 0, .int 0])), (q_9, .inl (k_10, 12, .inr (.inr (.inr (.inr (va_up (va_up (va_up (va_up (va_up (va_up (va_up (va_up (fun _ => none) (0 : Int32).toNatClampNeg (some q_12)) (1 : Int32).toNatClampNeg (some q_14)) (2 : Int32).toNatClampNeg (some q_16)) (3 : Int32).toNatClampNeg (some q_18)) (4 : Int32).toNatClampNeg (some q_20)) (5 : Int32).toNatClampNeg (some q_22)) (6 : Int32).toNatClampNeg (some q_24)) (7 : Int32).toNatClampNeg (some q_26))))))), (q_26, .inr (4, [.long 0, .long 0, .long 0, .int 0, .int 0]))] H := hP
  have hD : va_D A [(h0, .inr (3, [.ref q_1, .ref q_3, .ref q_5, .ref q_7, .ref q_9, .long 0, .int 0, .int 0, .int 0, .int 0, .long 0, .long 0, .long 0, .int 0, .int 0, .int 0, .int 0])), (q_9, .inl (k_10, 12, .inr (.inr (.inr (.inr (va_up (va_up (va_up (va_up (va_up (va_up (va_up (va_up (fun _ => none) (0 : Int32).toNatClampNeg (some q_12)) (1 : Int32).toNatClampNeg (some q_14)) (2 : Int32).toNatClampNeg (some q_16)) (3 : Int32).toNatClampNeg (some q_18)) (4 : Int32).toNatClampNeg (some q_20)) (5 : Int32).toNatClampNeg (some q_22)) (6 : Int32).toNatClampNeg (some q_24)) (7 : Int32).toNatClampNeg (some q_26))))))), (q_26, .inr (4, [.long 0, .long 0, .long 0, .int 0, .int 0]))] := hD
  have hP : va_P (dC, dI) zc [(h0, .inr (3, [.ref q_1, .ref q_3, .ref q_5, .ref q_7, .ref q_9, .long 0, .int 0, .int 0, .int 0, .int 0, .long 0, .long 0, .long 0, .int 0, .int 0, .int 0, .int 0])), (q_9, .inl (k_10, 12, .inr (.inr (.inr (.inr (va_up (va_up (va_up (va_up (va_up (va_up (va_up (va_up (fun _ => none) (0 : Int32).toNatClampNeg (some q_12)) (1 : Int32).toNatClampNeg (some q_14)) (2 : Int32).toNatClampNeg (some q_16)) (3 : Int32).toNatClampNeg (some q_18)) (4 : Int32).toNatClampNeg (some q_20)) (5 : Int32).toNatClampNeg (some q_22)) (6 : Int32).toNatClampNeg (some q_24)) (7 : Int32).toNatClampNeg (some q_26)))))))] H := hP.sub [0, 1] rfl
  have hD : va_D A [(h0, .inr (3, [.ref q_1, .ref q_3, .ref q_5, .ref q_7, .ref q_9, .long 0, .int 0, .int 0, .int 0, .int 0, .long 0, .long 0, .long 0, .int 0, .int 0, .int 0, .int 0])), (q_9, .inl (k_10, 12, .inr (.inr (.inr (.inr (va_up (va_up (va_up (va_up (va_up (va_up (va_up (va_up (fun _ => none) (0 : Int32).toNatClampNeg (some q_12)) (1 : Int32).toNatClampNeg (some q_14)) (2 : Int32).toNatClampNeg (some q_16)) (3 : Int32).toNatClampNeg (some q_18)) (4 : Int32).toNatClampNeg (some q_20)) (5 : Int32).toNatClampNeg (some q_22)) (6 : Int32).toNatClampNeg (some q_24)) (7 : Int32).toNatClampNeg (some q_26)))))))] := hD.sub [0, 1] (by decide) rfl
  refine lv_iinc (v := 8) (lv' := [(1, .int 8), (0, .ref h0)]) hx hb dX1_init_62 hl (k := 0) rfl (by decide) (by decide) rfl (fun ls hl => ?_)
  refine lv_goto (tgt := 43) hx hb dX1_init_65 (by decide) ?_
  refine lv_iload_n hx hb dX1_init_43 rfl (lv_at hl 0 rfl) ?_
  refine lv_bipush (v := 12) hx hb dX1_init_44 (by decide) ?_
  refine lv_icmp_ge (tgt := 68) hx hb dX1_init_46 (by decide) (fun c_27 => absurd c_27 (by decide)) (fun c_27 => ?_)
  refine lv_aload_n hx hb dX1_init_49 rfl (lv_at hl 1 rfl) ?_
  refine va_get (D := (dC, dI)) (ci := 3) (v := .ref q_9) (C := RX1) (T := TX1) (N := 17) hx hb hts iX1 hown hK hP 0 rfl rfl 4 (by decide) (hts _ kw_186) (fun _ h9 => h9) rfl dX1_init_50 ?_
  refine lv_iload_n hx hb dX1_init_53 rfl (lv_at hl 0 rfl) ?_
  refine va_new (ci := 4) (fs := [.long 0, .long 0, .long 0, .int 0, .int 0]) (C := RX3) (T := TX3) (N := 5) hx hb hts iX3 tyX3 tyX3_ok hown (hts _ kw_146) (hts _ kw_148) (hts _ kw_69) hK hP hD hS hA rfl z_dfX3 (zl_b rfl) (zl_b rfl) dX1_init_54 (fun q_28 H hP hD hS => ?_)
  have hP : va_P (dC, dI) zc [(h0, .inr (3, [.ref q_1, .ref q_3, .ref q_5, .ref q_7, .ref q_9, .long 0, .int 0, .int 0, .int 0, .int 0, .long 0, .long 0, .long 0, .int 0, .int 0, .int 0, .int 0])), (q_9, .inl (k_10, 12, .inr (.inr (.inr (.inr (va_up (va_up (va_up (va_up (va_up (va_up (va_up (va_up (fun _ => none) (0 : Int32).toNatClampNeg (some q_12)) (1 : Int32).toNatClampNeg (some q_14)) (2 : Int32).toNatClampNeg (some q_16)) (3 : Int32).toNatClampNeg (some q_18)) (4 : Int32).toNatClampNeg (some q_20)) (5 : Int32).toNatClampNeg (some q_22)) (6 : Int32).toNatClampNeg (some q_24)) (7 : Int32).toNatClampNeg (some q_26))))))), (q_28, .inr (4, [.long 0, .long 0, .long 0, .int 0, .int 0]))] H := hP
  have hD : va_D A [(h0, .inr (3, [.ref q_1, .ref q_3, .ref q_5, .ref q_7, .ref q_9, .long 0, .int 0, .int 0, .int 0, .int 0, .long 0, .long 0, .long 0, .int 0, .int 0, .int 0, .int 0])), (q_9, .inl (k_10, 12, .inr (.inr (.inr (.inr (va_up (va_up (va_up (va_up (va_up (va_up (va_up (va_up (fun _ => none) (0 : Int32).toNatClampNeg (some q_12)) (1 : Int32).toNatClampNeg (some q_14)) (2 : Int32).toNatClampNeg (some q_16)) (3 : Int32).toNatClampNeg (some q_18)) (4 : Int32).toNatClampNeg (some q_20)) (5 : Int32).toNatClampNeg (some q_22)) (6 : Int32).toNatClampNeg (some q_24)) (7 : Int32).toNatClampNeg (some q_26))))))), (q_28, .inr (4, [.long 0, .long 0, .long 0, .int 0, .int 0]))] := hD
  refine W.widen (k := 14) (n := 69) (zl_b rfl) (zl_b rfl) ?_
  refine lv_dup hx hb dX1_init_57 rfl ?_
  have hFc := va_free (wc := [(q_28, .inr (4, [.long 0, .long 0, .long 0, .int 0, .int 0]))]) hD hS hA [2] rfl
  refine va_callv (va_runIN (As := []) (rest := [.ref q_28, .int 8, .ref q_9]) ⟨hx, hb, hml, hown, hts⟩ (c_St_init l dC dI H.size t q_28) ⟨va_cnB 0 hts (zg_c kw_151) rfl rfl rfl (zT_nX1_31 hQ.1) (hts _ kw_69) (by decide +kernel) ⟨Nat.le_of_ble_eq_true rfl, Nat.le_of_ble_eq_true rfl⟩, rfl, (hts _ kw_150)⟩ ⟨zA_blind, zA_pre hP hD hS hK hQ hA [2] rfl rfl (by decide) [] rfl⟩ rfl rfl hl.1 rfl (lv_room (Nat.le_of_ble_eq_true rfl)) dX1_init_58 ⟨zl_b rfl, zl_b rfl⟩) hS (fun q _ h => hFc q h) hFc (fun u t9 H1 locs ht hvm hw hB hz1 hk1 hS => ?_)
  obtain ⟨hP1, hK1, hD1⟩ := hB
  rw [ht] at hP1
  have hK1 := va_K.moved hvm.symm hK1
  obtain ⟨hP, hD⟩ := va_join (wr := [(h0, .inr (3, [.ref q_1, .ref q_3, .ref q_5, .ref q_7, .ref q_9, .long 0, .int 0, .int 0, .int 0, .int 0, .long 0, .long 0, .long 0, .int 0, .int 0, .int 0, .int 0])), (q_9, .inl (k_10, 12, .inr (.inr (.inr (.inr (va_up (va_up (va_up (va_up (va_up (va_up (va_up (va_up (fun _ => none) (0 : Int32).toNatClampNeg (some q_12)) (1 : Int32).toNatClampNeg (some q_14)) (2 : Int32).toNatClampNeg (some q_16)) (3 : Int32).toNatClampNeg (some q_18)) (4 : Int32).toNatClampNeg (some q_20)) (5 : Int32).toNatClampNeg (some q_22)) (6 : Int32).toNatClampNeg (some q_24)) (7 : Int32).toNatClampNeg (some q_26)))))))]) (w1 := [(q_28, .inr (4, [.long 0, .long 0, .long 0, .int 0, .int 0]))]) hP hD [2] [0, 1] rfl rfl (by decide) (by decide) hk1 hFc hP1 hD1
  have hK := (hK.sub (tys' := [(k_2, .long), (k_4, .long), (k_6, .int), (k_8, .int), (k_10, .object "StatementCycle$Statement")]) [0, 1, 2, 3, 4] rfl).app hK1
  generalize H1 = H at hP hS ⊢
  have hP : va_P (dC, dI) zc [(h0, .inr (3, [.ref q_1, .ref q_3, .ref q_5, .ref q_7, .ref q_9, .long 0, .int 0, .int 0, .int 0, .int 0, .long 0, .long 0, .long 0, .int 0, .int 0, .int 0, .int 0])), (q_9, .inl (k_10, 12, .inr (.inr (.inr (.inr (va_up (va_up (va_up (va_up (va_up (va_up (va_up (va_up (fun _ => none) (0 : Int32).toNatClampNeg (some q_12)) (1 : Int32).toNatClampNeg (some q_14)) (2 : Int32).toNatClampNeg (some q_16)) (3 : Int32).toNatClampNeg (some q_18)) (4 : Int32).toNatClampNeg (some q_20)) (5 : Int32).toNatClampNeg (some q_22)) (6 : Int32).toNatClampNeg (some q_24)) (7 : Int32).toNatClampNeg (some q_26))))))), (q_28, .inr (4, [.long 0, .long 0, .long 0, .int 0, .int 0]))] H := hP
  have hD : va_D A [(h0, .inr (3, [.ref q_1, .ref q_3, .ref q_5, .ref q_7, .ref q_9, .long 0, .int 0, .int 0, .int 0, .int 0, .long 0, .long 0, .long 0, .int 0, .int 0, .int 0, .int 0])), (q_9, .inl (k_10, 12, .inr (.inr (.inr (.inr (va_up (va_up (va_up (va_up (va_up (va_up (va_up (va_up (fun _ => none) (0 : Int32).toNatClampNeg (some q_12)) (1 : Int32).toNatClampNeg (some q_14)) (2 : Int32).toNatClampNeg (some q_16)) (3 : Int32).toNatClampNeg (some q_18)) (4 : Int32).toNatClampNeg (some q_20)) (5 : Int32).toNatClampNeg (some q_22)) (6 : Int32).toNatClampNeg (some q_24)) (7 : Int32).toNatClampNeg (some q_26))))))), (q_28, .inr (4, [.long 0, .long 0, .long 0, .int 0, .int 0]))] := hD
  have hK : va_K (dC, dI) zc [(k_2, .long), (k_4, .long), (k_6, .int), (k_8, .int), (k_10, .object "StatementCycle$Statement")] s := hK
  refine va_astq hx hb hK hP hD hS 1 4 2 4 rfl rfl rfl rfl (by unfold vp_in; decide) dX1_init_61 (fun H locs hP hD hS => ?_)
  have hP : va_P (dC, dI) zc [(h0, .inr (3, [.ref q_1, .ref q_3, .ref q_5, .ref q_7, .ref q_9, .long 0, .int 0, .int 0, .int 0, .int 0, .long 0, .long 0, .long 0, .int 0, .int 0, .int 0, .int 0])), (q_9, .inl (k_10, 12, .inr (.inr (.inr (.inr (va_up (va_up (va_up (va_up (va_up (va_up (va_up (va_up (va_up (fun _ => none) (0 : Int32).toNatClampNeg (some q_12)) (1 : Int32).toNatClampNeg (some q_14)) (2 : Int32).toNatClampNeg (some q_16)) (3 : Int32).toNatClampNeg (some q_18)) (4 : Int32).toNatClampNeg (some q_20)) (5 : Int32).toNatClampNeg (some q_22)) (6 : Int32).toNatClampNeg (some q_24)) (7 : Int32).toNatClampNeg (some q_26)) (8 : Int32).toNatClampNeg (some q_28))))))), (q_28, .inr (4, [.long 0, .long 0, .long 0, .int 0, .int 0]))] H := hP
  have hD : va_D A [(h0, .inr (3, [.ref q_1, .ref q_3, .ref q_5, .ref q_7, .ref q_9, .long 0, .int 0, .int 0, .int 0, .int 0, .long 0, .long 0, .long 0, .int 0, .int 0, .int 0, .int 0])), (q_9, .inl (k_10, 12, .inr (.inr (.inr (.inr (va_up (va_up (va_up (va_up (va_up (va_up (va_up (va_up (va_up (fun _ => none) (0 : Int32).toNatClampNeg (some q_12)) (1 : Int32).toNatClampNeg (some q_14)) (2 : Int32).toNatClampNeg (some q_16)) (3 : Int32).toNatClampNeg (some q_18)) (4 : Int32).toNatClampNeg (some q_20)) (5 : Int32).toNatClampNeg (some q_22)) (6 : Int32).toNatClampNeg (some q_24)) (7 : Int32).toNatClampNeg (some q_26)) (8 : Int32).toNatClampNeg (some q_28))))))), (q_28, .inr (4, [.long 0, .long 0, .long 0, .int 0, .int 0]))] := hD
  have hP : va_P (dC, dI) zc [(h0, .inr (3, [.ref q_1, .ref q_3, .ref q_5, .ref q_7, .ref q_9, .long 0, .int 0, .int 0, .int 0, .int 0, .long 0, .long 0, .long 0, .int 0, .int 0, .int 0, .int 0])), (q_9, .inl (k_10, 12, .inr (.inr (.inr (.inr (va_up (va_up (va_up (va_up (va_up (va_up (va_up (va_up (va_up (fun _ => none) (0 : Int32).toNatClampNeg (some q_12)) (1 : Int32).toNatClampNeg (some q_14)) (2 : Int32).toNatClampNeg (some q_16)) (3 : Int32).toNatClampNeg (some q_18)) (4 : Int32).toNatClampNeg (some q_20)) (5 : Int32).toNatClampNeg (some q_22)) (6 : Int32).toNatClampNeg (some q_24)) (7 : Int32).toNatClampNeg (some q_26)) (8 : Int32).toNatClampNeg (some q_28)))))))] H := hP.sub [0, 1] rfl
  have hD : va_D A [(h0, .inr (3, [.ref q_1, .ref q_3, .ref q_5, .ref q_7, .ref q_9, .long 0, .int 0, .int 0, .int 0, .int 0, .long 0, .long 0, .long 0, .int 0, .int 0, .int 0, .int 0])), (q_9, .inl (k_10, 12, .inr (.inr (.inr (.inr (va_up (va_up (va_up (va_up (va_up (va_up (va_up (va_up (va_up (fun _ => none) (0 : Int32).toNatClampNeg (some q_12)) (1 : Int32).toNatClampNeg (some q_14)) (2 : Int32).toNatClampNeg (some q_16)) (3 : Int32).toNatClampNeg (some q_18)) (4 : Int32).toNatClampNeg (some q_20)) (5 : Int32).toNatClampNeg (some q_22)) (6 : Int32).toNatClampNeg (some q_24)) (7 : Int32).toNatClampNeg (some q_26)) (8 : Int32).toNatClampNeg (some q_28)))))))] := hD.sub [0, 1] (by decide) rfl
  refine lv_iinc (v := 9) (lv' := [(1, .int 9), (0, .ref h0)]) hx hb dX1_init_62 hl (k := 0) rfl (by decide) (by decide) rfl (fun ls hl => ?_)
  refine lv_goto (tgt := 43) hx hb dX1_init_65 (by decide) ?_
  refine lv_iload_n hx hb dX1_init_43 rfl (lv_at hl 0 rfl) ?_
  refine lv_bipush (v := 12) hx hb dX1_init_44 (by decide) ?_
  refine lv_icmp_ge (tgt := 68) hx hb dX1_init_46 (by decide) (fun c_29 => absurd c_29 (by decide)) (fun c_29 => ?_)
  refine lv_aload_n hx hb dX1_init_49 rfl (lv_at hl 1 rfl) ?_
  refine va_get (D := (dC, dI)) (ci := 3) (v := .ref q_9) (C := RX1) (T := TX1) (N := 17) hx hb hts iX1 hown hK hP 0 rfl rfl 4 (by decide) (hts _ kw_186) (fun _ h9 => h9) rfl dX1_init_50 ?_
  refine lv_iload_n hx hb dX1_init_53 rfl (lv_at hl 0 rfl) ?_
  refine va_new (ci := 4) (fs := [.long 0, .long 0, .long 0, .int 0, .int 0]) (C := RX3) (T := TX3) (N := 5) hx hb hts iX3 tyX3 tyX3_ok hown (hts _ kw_146) (hts _ kw_148) (hts _ kw_69) hK hP hD hS hA rfl z_dfX3 (zl_b rfl) (zl_b rfl) dX1_init_54 (fun q_30 H hP hD hS => ?_)
  have hP : va_P (dC, dI) zc [(h0, .inr (3, [.ref q_1, .ref q_3, .ref q_5, .ref q_7, .ref q_9, .long 0, .int 0, .int 0, .int 0, .int 0, .long 0, .long 0, .long 0, .int 0, .int 0, .int 0, .int 0])), (q_9, .inl (k_10, 12, .inr (.inr (.inr (.inr (va_up (va_up (va_up (va_up (va_up (va_up (va_up (va_up (va_up (fun _ => none) (0 : Int32).toNatClampNeg (some q_12)) (1 : Int32).toNatClampNeg (some q_14)) (2 : Int32).toNatClampNeg (some q_16)) (3 : Int32).toNatClampNeg (some q_18)) (4 : Int32).toNatClampNeg (some q_20)) (5 : Int32).toNatClampNeg (some q_22)) (6 : Int32).toNatClampNeg (some q_24)) (7 : Int32).toNatClampNeg (some q_26)) (8 : Int32).toNatClampNeg (some q_28))))))), (q_30, .inr (4, [.long 0, .long 0, .long 0, .int 0, .int 0]))] H := hP
  have hD : va_D A [(h0, .inr (3, [.ref q_1, .ref q_3, .ref q_5, .ref q_7, .ref q_9, .long 0, .int 0, .int 0, .int 0, .int 0, .long 0, .long 0, .long 0, .int 0, .int 0, .int 0, .int 0])), (q_9, .inl (k_10, 12, .inr (.inr (.inr (.inr (va_up (va_up (va_up (va_up (va_up (va_up (va_up (va_up (va_up (fun _ => none) (0 : Int32).toNatClampNeg (some q_12)) (1 : Int32).toNatClampNeg (some q_14)) (2 : Int32).toNatClampNeg (some q_16)) (3 : Int32).toNatClampNeg (some q_18)) (4 : Int32).toNatClampNeg (some q_20)) (5 : Int32).toNatClampNeg (some q_22)) (6 : Int32).toNatClampNeg (some q_24)) (7 : Int32).toNatClampNeg (some q_26)) (8 : Int32).toNatClampNeg (some q_28))))))), (q_30, .inr (4, [.long 0, .long 0, .long 0, .int 0, .int 0]))] := hD
  refine W.widen (k := 15) (n := 74) (zl_b rfl) (zl_b rfl) ?_
  refine lv_dup hx hb dX1_init_57 rfl ?_
  have hFc := va_free (wc := [(q_30, .inr (4, [.long 0, .long 0, .long 0, .int 0, .int 0]))]) hD hS hA [2] rfl
  refine va_callv (va_runIN (As := []) (rest := [.ref q_30, .int 9, .ref q_9]) ⟨hx, hb, hml, hown, hts⟩ (c_St_init l dC dI H.size t q_30) ⟨va_cnB 0 hts (zg_c kw_151) rfl rfl rfl (zT_nX1_31 hQ.1) (hts _ kw_69) (by decide +kernel) ⟨Nat.le_of_ble_eq_true rfl, Nat.le_of_ble_eq_true rfl⟩, rfl, (hts _ kw_150)⟩ ⟨zA_blind, zA_pre hP hD hS hK hQ hA [2] rfl rfl (by decide) [] rfl⟩ rfl rfl hl.1 rfl (lv_room (Nat.le_of_ble_eq_true rfl)) dX1_init_58 ⟨zl_b rfl, zl_b rfl⟩) hS (fun q _ h => hFc q h) hFc (fun u t9 H1 locs ht hvm hw hB hz1 hk1 hS => ?_)
  obtain ⟨hP1, hK1, hD1⟩ := hB
  rw [ht] at hP1
  have hK1 := va_K.moved hvm.symm hK1
  obtain ⟨hP, hD⟩ := va_join (wr := [(h0, .inr (3, [.ref q_1, .ref q_3, .ref q_5, .ref q_7, .ref q_9, .long 0, .int 0, .int 0, .int 0, .int 0, .long 0, .long 0, .long 0, .int 0, .int 0, .int 0, .int 0])), (q_9, .inl (k_10, 12, .inr (.inr (.inr (.inr (va_up (va_up (va_up (va_up (va_up (va_up (va_up (va_up (va_up (fun _ => none) (0 : Int32).toNatClampNeg (some q_12)) (1 : Int32).toNatClampNeg (some q_14)) (2 : Int32).toNatClampNeg (some q_16)) (3 : Int32).toNatClampNeg (some q_18)) (4 : Int32).toNatClampNeg (some q_20)) (5 : Int32).toNatClampNeg (some q_22)) (6 : Int32).toNatClampNeg (some q_24)) (7 : Int32).toNatClampNeg (some q_26)) (8 : Int32).toNatClampNeg (some q_28)))))))]) (w1 := [(q_30, .inr (4, [.long 0, .long 0, .long 0, .int 0, .int 0]))]) hP hD [2] [0, 1] rfl rfl (by decide) (by decide) hk1 hFc hP1 hD1
  have hK := (hK.sub (tys' := [(k_2, .long), (k_4, .long), (k_6, .int), (k_8, .int), (k_10, .object "StatementCycle$Statement")]) [0, 1, 2, 3, 4] rfl).app hK1
  generalize H1 = H at hP hS ⊢
  have hP : va_P (dC, dI) zc [(h0, .inr (3, [.ref q_1, .ref q_3, .ref q_5, .ref q_7, .ref q_9, .long 0, .int 0, .int 0, .int 0, .int 0, .long 0, .long 0, .long 0, .int 0, .int 0, .int 0, .int 0])), (q_9, .inl (k_10, 12, .inr (.inr (.inr (.inr (va_up (va_up (va_up (va_up (va_up (va_up (va_up (va_up (va_up (fun _ => none) (0 : Int32).toNatClampNeg (some q_12)) (1 : Int32).toNatClampNeg (some q_14)) (2 : Int32).toNatClampNeg (some q_16)) (3 : Int32).toNatClampNeg (some q_18)) (4 : Int32).toNatClampNeg (some q_20)) (5 : Int32).toNatClampNeg (some q_22)) (6 : Int32).toNatClampNeg (some q_24)) (7 : Int32).toNatClampNeg (some q_26)) (8 : Int32).toNatClampNeg (some q_28))))))), (q_30, .inr (4, [.long 0, .long 0, .long 0, .int 0, .int 0]))] H := hP
  have hD : va_D A [(h0, .inr (3, [.ref q_1, .ref q_3, .ref q_5, .ref q_7, .ref q_9, .long 0, .int 0, .int 0, .int 0, .int 0, .long 0, .long 0, .long 0, .int 0, .int 0, .int 0, .int 0])), (q_9, .inl (k_10, 12, .inr (.inr (.inr (.inr (va_up (va_up (va_up (va_up (va_up (va_up (va_up (va_up (va_up (fun _ => none) (0 : Int32).toNatClampNeg (some q_12)) (1 : Int32).toNatClampNeg (some q_14)) (2 : Int32).toNatClampNeg (some q_16)) (3 : Int32).toNatClampNeg (some q_18)) (4 : Int32).toNatClampNeg (some q_20)) (5 : Int32).toNatClampNeg (some q_22)) (6 : Int32).toNatClampNeg (some q_24)) (7 : Int32).toNatClampNeg (some q_26)) (8 : Int32).toNatClampNeg (some q_28))))))), (q_30, .inr (4, [.long 0, .long 0, .long 0, .int 0, .int 0]))] := hD
  have hK : va_K (dC, dI) zc [(k_2, .long), (k_4, .long), (k_6, .int), (k_8, .int), (k_10, .object "StatementCycle$Statement")] s := hK
  refine va_astq hx hb hK hP hD hS 1 4 2 4 rfl rfl rfl rfl (by unfold vp_in; decide) dX1_init_61 (fun H locs hP hD hS => ?_)
  have hP : va_P (dC, dI) zc [(h0, .inr (3, [.ref q_1, .ref q_3, .ref q_5, .ref q_7, .ref q_9, .long 0, .int 0, .int 0, .int 0, .int 0, .long 0, .long 0, .long 0, .int 0, .int 0, .int 0, .int 0])), (q_9, .inl (k_10, 12, .inr (.inr (.inr (.inr (va_up (va_up (va_up (va_up (va_up (va_up (va_up (va_up (va_up (va_up (fun _ => none) (0 : Int32).toNatClampNeg (some q_12)) (1 : Int32).toNatClampNeg (some q_14)) (2 : Int32).toNatClampNeg (some q_16)) (3 : Int32).toNatClampNeg (some q_18)) (4 : Int32).toNatClampNeg (some q_20)) (5 : Int32).toNatClampNeg (some q_22)) (6 : Int32).toNatClampNeg (some q_24)) (7 : Int32).toNatClampNeg (some q_26)) (8 : Int32).toNatClampNeg (some q_28)) (9 : Int32).toNatClampNeg (some q_30))))))), (q_30, .inr (4, [.long 0, .long 0, .long 0, .int 0, .int 0]))] H := hP
  have hD : va_D A [(h0, .inr (3, [.ref q_1, .ref q_3, .ref q_5, .ref q_7, .ref q_9, .long 0, .int 0, .int 0, .int 0, .int 0, .long 0, .long 0, .long 0, .int 0, .int 0, .int 0, .int 0])), (q_9, .inl (k_10, 12, .inr (.inr (.inr (.inr (va_up (va_up (va_up (va_up (va_up (va_up (va_up (va_up (va_up (va_up (fun _ => none) (0 : Int32).toNatClampNeg (some q_12)) (1 : Int32).toNatClampNeg (some q_14)) (2 : Int32).toNatClampNeg (some q_16)) (3 : Int32).toNatClampNeg (some q_18)) (4 : Int32).toNatClampNeg (some q_20)) (5 : Int32).toNatClampNeg (some q_22)) (6 : Int32).toNatClampNeg (some q_24)) (7 : Int32).toNatClampNeg (some q_26)) (8 : Int32).toNatClampNeg (some q_28)) (9 : Int32).toNatClampNeg (some q_30))))))), (q_30, .inr (4, [.long 0, .long 0, .long 0, .int 0, .int 0]))] := hD
  have hP : va_P (dC, dI) zc [(h0, .inr (3, [.ref q_1, .ref q_3, .ref q_5, .ref q_7, .ref q_9, .long 0, .int 0, .int 0, .int 0, .int 0, .long 0, .long 0, .long 0, .int 0, .int 0, .int 0, .int 0])), (q_9, .inl (k_10, 12, .inr (.inr (.inr (.inr (va_up (va_up (va_up (va_up (va_up (va_up (va_up (va_up (va_up (va_up (fun _ => none) (0 : Int32).toNatClampNeg (some q_12)) (1 : Int32).toNatClampNeg (some q_14)) (2 : Int32).toNatClampNeg (some q_16)) (3 : Int32).toNatClampNeg (some q_18)) (4 : Int32).toNatClampNeg (some q_20)) (5 : Int32).toNatClampNeg (some q_22)) (6 : Int32).toNatClampNeg (some q_24)) (7 : Int32).toNatClampNeg (some q_26)) (8 : Int32).toNatClampNeg (some q_28)) (9 : Int32).toNatClampNeg (some q_30)))))))] H := hP.sub [0, 1] rfl
  have hD : va_D A [(h0, .inr (3, [.ref q_1, .ref q_3, .ref q_5, .ref q_7, .ref q_9, .long 0, .int 0, .int 0, .int 0, .int 0, .long 0, .long 0, .long 0, .int 0, .int 0, .int 0, .int 0])), (q_9, .inl (k_10, 12, .inr (.inr (.inr (.inr (va_up (va_up (va_up (va_up (va_up (va_up (va_up (va_up (va_up (va_up (fun _ => none) (0 : Int32).toNatClampNeg (some q_12)) (1 : Int32).toNatClampNeg (some q_14)) (2 : Int32).toNatClampNeg (some q_16)) (3 : Int32).toNatClampNeg (some q_18)) (4 : Int32).toNatClampNeg (some q_20)) (5 : Int32).toNatClampNeg (some q_22)) (6 : Int32).toNatClampNeg (some q_24)) (7 : Int32).toNatClampNeg (some q_26)) (8 : Int32).toNatClampNeg (some q_28)) (9 : Int32).toNatClampNeg (some q_30)))))))] := hD.sub [0, 1] (by decide) rfl
  refine lv_iinc (v := 10) (lv' := [(1, .int 10), (0, .ref h0)]) hx hb dX1_init_62 hl (k := 0) rfl (by decide) (by decide) rfl (fun ls hl => ?_)
  refine lv_goto (tgt := 43) hx hb dX1_init_65 (by decide) ?_
  refine lv_iload_n hx hb dX1_init_43 rfl (lv_at hl 0 rfl) ?_
  refine lv_bipush (v := 12) hx hb dX1_init_44 (by decide) ?_
  refine lv_icmp_ge (tgt := 68) hx hb dX1_init_46 (by decide) (fun c_31 => absurd c_31 (by decide)) (fun c_31 => ?_)
  refine lv_aload_n hx hb dX1_init_49 rfl (lv_at hl 1 rfl) ?_
  refine va_get (D := (dC, dI)) (ci := 3) (v := .ref q_9) (C := RX1) (T := TX1) (N := 17) hx hb hts iX1 hown hK hP 0 rfl rfl 4 (by decide) (hts _ kw_186) (fun _ h9 => h9) rfl dX1_init_50 ?_
  refine lv_iload_n hx hb dX1_init_53 rfl (lv_at hl 0 rfl) ?_
  refine va_new (ci := 4) (fs := [.long 0, .long 0, .long 0, .int 0, .int 0]) (C := RX3) (T := TX3) (N := 5) hx hb hts iX3 tyX3 tyX3_ok hown (hts _ kw_146) (hts _ kw_148) (hts _ kw_69) hK hP hD hS hA rfl z_dfX3 (zl_b rfl) (zl_b rfl) dX1_init_54 (fun q_32 H hP hD hS => ?_)
  have hP : va_P (dC, dI) zc [(h0, .inr (3, [.ref q_1, .ref q_3, .ref q_5, .ref q_7, .ref q_9, .long 0, .int 0, .int 0, .int 0, .int 0, .long 0, .long 0, .long 0, .int 0, .int 0, .int 0, .int 0])), (q_9, .inl (k_10, 12, .inr (.inr (.inr (.inr (va_up (va_up (va_up (va_up (va_up (va_up (va_up (va_up (va_up (va_up (fun _ => none) (0 : Int32).toNatClampNeg (some q_12)) (1 : Int32).toNatClampNeg (some q_14)) (2 : Int32).toNatClampNeg (some q_16)) (3 : Int32).toNatClampNeg (some q_18)) (4 : Int32).toNatClampNeg (some q_20)) (5 : Int32).toNatClampNeg (some q_22)) (6 : Int32).toNatClampNeg (some q_24)) (7 : Int32).toNatClampNeg (some q_26)) (8 : Int32).toNatClampNeg (some q_28)) (9 : Int32).toNatClampNeg (some q_30))))))), (q_32, .inr (4, [.long 0, .long 0, .long 0, .int 0, .int 0]))] H := hP
  have hD : va_D A [(h0, .inr (3, [.ref q_1, .ref q_3, .ref q_5, .ref q_7, .ref q_9, .long 0, .int 0, .int 0, .int 0, .int 0, .long 0, .long 0, .long 0, .int 0, .int 0, .int 0, .int 0])), (q_9, .inl (k_10, 12, .inr (.inr (.inr (.inr (va_up (va_up (va_up (va_up (va_up (va_up (va_up (va_up (va_up (va_up (fun _ => none) (0 : Int32).toNatClampNeg (some q_12)) (1 : Int32).toNatClampNeg (some q_14)) (2 : Int32).toNatClampNeg (some q_16)) (3 : Int32).toNatClampNeg (some q_18)) (4 : Int32).toNatClampNeg (some q_20)) (5 : Int32).toNatClampNeg (some q_22)) (6 : Int32).toNatClampNeg (some q_24)) (7 : Int32).toNatClampNeg (some q_26)) (8 : Int32).toNatClampNeg (some q_28)) (9 : Int32).toNatClampNeg (some q_30))))))), (q_32, .inr (4, [.long 0, .long 0, .long 0, .int 0, .int 0]))] := hD
  refine W.widen (k := 16) (n := 79) (zl_b rfl) (zl_b rfl) ?_
  refine lv_dup hx hb dX1_init_57 rfl ?_
  have hFc := va_free (wc := [(q_32, .inr (4, [.long 0, .long 0, .long 0, .int 0, .int 0]))]) hD hS hA [2] rfl
  refine va_callv (va_runIN (As := []) (rest := [.ref q_32, .int 10, .ref q_9]) ⟨hx, hb, hml, hown, hts⟩ (c_St_init l dC dI H.size t q_32) ⟨va_cnB 0 hts (zg_c kw_151) rfl rfl rfl (zT_nX1_31 hQ.1) (hts _ kw_69) (by decide +kernel) ⟨Nat.le_of_ble_eq_true rfl, Nat.le_of_ble_eq_true rfl⟩, rfl, (hts _ kw_150)⟩ ⟨zA_blind, zA_pre hP hD hS hK hQ hA [2] rfl rfl (by decide) [] rfl⟩ rfl rfl hl.1 rfl (lv_room (Nat.le_of_ble_eq_true rfl)) dX1_init_58 ⟨zl_b rfl, zl_b rfl⟩) hS (fun q _ h => hFc q h) hFc (fun u t9 H1 locs ht hvm hw hB hz1 hk1 hS => ?_)
  obtain ⟨hP1, hK1, hD1⟩ := hB
  rw [ht] at hP1
  have hK1 := va_K.moved hvm.symm hK1
  obtain ⟨hP, hD⟩ := va_join (wr := [(h0, .inr (3, [.ref q_1, .ref q_3, .ref q_5, .ref q_7, .ref q_9, .long 0, .int 0, .int 0, .int 0, .int 0, .long 0, .long 0, .long 0, .int 0, .int 0, .int 0, .int 0])), (q_9, .inl (k_10, 12, .inr (.inr (.inr (.inr (va_up (va_up (va_up (va_up (va_up (va_up (va_up (va_up (va_up (va_up (fun _ => none) (0 : Int32).toNatClampNeg (some q_12)) (1 : Int32).toNatClampNeg (some q_14)) (2 : Int32).toNatClampNeg (some q_16)) (3 : Int32).toNatClampNeg (some q_18)) (4 : Int32).toNatClampNeg (some q_20)) (5 : Int32).toNatClampNeg (some q_22)) (6 : Int32).toNatClampNeg (some q_24)) (7 : Int32).toNatClampNeg (some q_26)) (8 : Int32).toNatClampNeg (some q_28)) (9 : Int32).toNatClampNeg (some q_30)))))))]) (w1 := [(q_32, .inr (4, [.long 0, .long 0, .long 0, .int 0, .int 0]))]) hP hD [2] [0, 1] rfl rfl (by decide) (by decide) hk1 hFc hP1 hD1
  have hK := (hK.sub (tys' := [(k_2, .long), (k_4, .long), (k_6, .int), (k_8, .int), (k_10, .object "StatementCycle$Statement")]) [0, 1, 2, 3, 4] rfl).app hK1
  generalize H1 = H at hP hS ⊢
  have hP : va_P (dC, dI) zc [(h0, .inr (3, [.ref q_1, .ref q_3, .ref q_5, .ref q_7, .ref q_9, .long 0, .int 0, .int 0, .int 0, .int 0, .long 0, .long 0, .long 0, .int 0, .int 0, .int 0, .int 0])), (q_9, .inl (k_10, 12, .inr (.inr (.inr (.inr (va_up (va_up (va_up (va_up (va_up (va_up (va_up (va_up (va_up (va_up (fun _ => none) (0 : Int32).toNatClampNeg (some q_12)) (1 : Int32).toNatClampNeg (some q_14)) (2 : Int32).toNatClampNeg (some q_16)) (3 : Int32).toNatClampNeg (some q_18)) (4 : Int32).toNatClampNeg (some q_20)) (5 : Int32).toNatClampNeg (some q_22)) (6 : Int32).toNatClampNeg (some q_24)) (7 : Int32).toNatClampNeg (some q_26)) (8 : Int32).toNatClampNeg (some q_28)) (9 : Int32).toNatClampNeg (some q_30))))))), (q_32, .inr (4, [.long 0, .long 0, .long 0, .int 0, .int 0]))] H := hP
  have hD : va_D A [(h0, .inr (3, [.ref q_1, .ref q_3, .ref q_5, .ref q_7, .ref q_9, .long 0, .int 0, .int 0, .int 0, .int 0, .long 0, .long 0, .long 0, .int 0, .int 0, .int 0, .int 0])), (q_9, .inl (k_10, 12, .inr (.inr (.inr (.inr (va_up (va_up (va_up (va_up (va_up (va_up (va_up (va_up (va_up (va_up (fun _ => none) (0 : Int32).toNatClampNeg (some q_12)) (1 : Int32).toNatClampNeg (some q_14)) (2 : Int32).toNatClampNeg (some q_16)) (3 : Int32).toNatClampNeg (some q_18)) (4 : Int32).toNatClampNeg (some q_20)) (5 : Int32).toNatClampNeg (some q_22)) (6 : Int32).toNatClampNeg (some q_24)) (7 : Int32).toNatClampNeg (some q_26)) (8 : Int32).toNatClampNeg (some q_28)) (9 : Int32).toNatClampNeg (some q_30))))))), (q_32, .inr (4, [.long 0, .long 0, .long 0, .int 0, .int 0]))] := hD
  have hK : va_K (dC, dI) zc [(k_2, .long), (k_4, .long), (k_6, .int), (k_8, .int), (k_10, .object "StatementCycle$Statement")] s := hK
  refine va_astq hx hb hK hP hD hS 1 4 2 4 rfl rfl rfl rfl (by unfold vp_in; decide) dX1_init_61 (fun H locs hP hD hS => ?_)
  have hP : va_P (dC, dI) zc [(h0, .inr (3, [.ref q_1, .ref q_3, .ref q_5, .ref q_7, .ref q_9, .long 0, .int 0, .int 0, .int 0, .int 0, .long 0, .long 0, .long 0, .int 0, .int 0, .int 0, .int 0])), (q_9, .inl (k_10, 12, .inr (.inr (.inr (.inr (va_up (va_up (va_up (va_up (va_up (va_up (va_up (va_up (va_up (va_up (va_up (fun _ => none) (0 : Int32).toNatClampNeg (some q_12)) (1 : Int32).toNatClampNeg (some q_14)) (2 : Int32).toNatClampNeg (some q_16)) (3 : Int32).toNatClampNeg (some q_18)) (4 : Int32).toNatClampNeg (some q_20)) (5 : Int32).toNatClampNeg (some q_22)) (6 : Int32).toNatClampNeg (some q_24)) (7 : Int32).toNatClampNeg (some q_26)) (8 : Int32).toNatClampNeg (some q_28)) (9 : Int32).toNatClampNeg (some q_30)) (10 : Int32).toNatClampNeg (some q_32))))))), (q_32, .inr (4, [.long 0, .long 0, .long 0, .int 0, .int 0]))] H := hP
  have hD : va_D A [(h0, .inr (3, [.ref q_1, .ref q_3, .ref q_5, .ref q_7, .ref q_9, .long 0, .int 0, .int 0, .int 0, .int 0, .long 0, .long 0, .long 0, .int 0, .int 0, .int 0, .int 0])), (q_9, .inl (k_10, 12, .inr (.inr (.inr (.inr (va_up (va_up (va_up (va_up (va_up (va_up (va_up (va_up (va_up (va_up (va_up (fun _ => none) (0 : Int32).toNatClampNeg (some q_12)) (1 : Int32).toNatClampNeg (some q_14)) (2 : Int32).toNatClampNeg (some q_16)) (3 : Int32).toNatClampNeg (some q_18)) (4 : Int32).toNatClampNeg (some q_20)) (5 : Int32).toNatClampNeg (some q_22)) (6 : Int32).toNatClampNeg (some q_24)) (7 : Int32).toNatClampNeg (some q_26)) (8 : Int32).toNatClampNeg (some q_28)) (9 : Int32).toNatClampNeg (some q_30)) (10 : Int32).toNatClampNeg (some q_32))))))), (q_32, .inr (4, [.long 0, .long 0, .long 0, .int 0, .int 0]))] := hD
  have hP : va_P (dC, dI) zc [(h0, .inr (3, [.ref q_1, .ref q_3, .ref q_5, .ref q_7, .ref q_9, .long 0, .int 0, .int 0, .int 0, .int 0, .long 0, .long 0, .long 0, .int 0, .int 0, .int 0, .int 0])), (q_9, .inl (k_10, 12, .inr (.inr (.inr (.inr (va_up (va_up (va_up (va_up (va_up (va_up (va_up (va_up (va_up (va_up (va_up (fun _ => none) (0 : Int32).toNatClampNeg (some q_12)) (1 : Int32).toNatClampNeg (some q_14)) (2 : Int32).toNatClampNeg (some q_16)) (3 : Int32).toNatClampNeg (some q_18)) (4 : Int32).toNatClampNeg (some q_20)) (5 : Int32).toNatClampNeg (some q_22)) (6 : Int32).toNatClampNeg (some q_24)) (7 : Int32).toNatClampNeg (some q_26)) (8 : Int32).toNatClampNeg (some q_28)) (9 : Int32).toNatClampNeg (some q_30)) (10 : Int32).toNatClampNeg (some q_32)))))))] H := hP.sub [0, 1] rfl
  have hD : va_D A [(h0, .inr (3, [.ref q_1, .ref q_3, .ref q_5, .ref q_7, .ref q_9, .long 0, .int 0, .int 0, .int 0, .int 0, .long 0, .long 0, .long 0, .int 0, .int 0, .int 0, .int 0])), (q_9, .inl (k_10, 12, .inr (.inr (.inr (.inr (va_up (va_up (va_up (va_up (va_up (va_up (va_up (va_up (va_up (va_up (va_up (fun _ => none) (0 : Int32).toNatClampNeg (some q_12)) (1 : Int32).toNatClampNeg (some q_14)) (2 : Int32).toNatClampNeg (some q_16)) (3 : Int32).toNatClampNeg (some q_18)) (4 : Int32).toNatClampNeg (some q_20)) (5 : Int32).toNatClampNeg (some q_22)) (6 : Int32).toNatClampNeg (some q_24)) (7 : Int32).toNatClampNeg (some q_26)) (8 : Int32).toNatClampNeg (some q_28)) (9 : Int32).toNatClampNeg (some q_30)) (10 : Int32).toNatClampNeg (some q_32)))))))] := hD.sub [0, 1] (by decide) rfl
  refine lv_iinc (v := 11) (lv' := [(1, .int 11), (0, .ref h0)]) hx hb dX1_init_62 hl (k := 0) rfl (by decide) (by decide) rfl (fun ls hl => ?_)
  refine lv_goto (tgt := 43) hx hb dX1_init_65 (by decide) ?_
  refine lv_iload_n hx hb dX1_init_43 rfl (lv_at hl 0 rfl) ?_
  refine lv_bipush (v := 12) hx hb dX1_init_44 (by decide) ?_
  refine lv_icmp_ge (tgt := 68) hx hb dX1_init_46 (by decide) (fun c_33 => absurd c_33 (by decide)) (fun c_33 => ?_)
  refine lv_aload_n hx hb dX1_init_49 rfl (lv_at hl 1 rfl) ?_
  refine va_get (D := (dC, dI)) (ci := 3) (v := .ref q_9) (C := RX1) (T := TX1) (N := 17) hx hb hts iX1 hown hK hP 0 rfl rfl 4 (by decide) (hts _ kw_186) (fun _ h9 => h9) rfl dX1_init_50 ?_
  refine lv_iload_n hx hb dX1_init_53 rfl (lv_at hl 0 rfl) ?_
  refine va_new (ci := 4) (fs := [.long 0, .long 0, .long 0, .int 0, .int 0]) (C := RX3) (T := TX3) (N := 5) hx hb hts iX3 tyX3 tyX3_ok hown (hts _ kw_146) (hts _ kw_148) (hts _ kw_69) hK hP hD hS hA rfl z_dfX3 (zl_b rfl) (zl_b rfl) dX1_init_54 (fun q_34 H hP hD hS => ?_)
  have hP : va_P (dC, dI) zc [(h0, .inr (3, [.ref q_1, .ref q_3, .ref q_5, .ref q_7, .ref q_9, .long 0, .int 0, .int 0, .int 0, .int 0, .long 0, .long 0, .long 0, .int 0, .int 0, .int 0, .int 0])), (q_9, .inl (k_10, 12, .inr (.inr (.inr (.inr (va_up (va_up (va_up (va_up (va_up (va_up (va_up (va_up (va_up (va_up (va_up (fun _ => none) (0 : Int32).toNatClampNeg (some q_12)) (1 : Int32).toNatClampNeg (some q_14)) (2 : Int32).toNatClampNeg (some q_16)) (3 : Int32).toNatClampNeg (some q_18)) (4 : Int32).toNatClampNeg (some q_20)) (5 : Int32).toNatClampNeg (some q_22)) (6 : Int32).toNatClampNeg (some q_24)) (7 : Int32).toNatClampNeg (some q_26)) (8 : Int32).toNatClampNeg (some q_28)) (9 : Int32).toNatClampNeg (some q_30)) (10 : Int32).toNatClampNeg (some q_32))))))), (q_34, .inr (4, [.long 0, .long 0, .long 0, .int 0, .int 0]))] H := hP
  have hD : va_D A [(h0, .inr (3, [.ref q_1, .ref q_3, .ref q_5, .ref q_7, .ref q_9, .long 0, .int 0, .int 0, .int 0, .int 0, .long 0, .long 0, .long 0, .int 0, .int 0, .int 0, .int 0])), (q_9, .inl (k_10, 12, .inr (.inr (.inr (.inr (va_up (va_up (va_up (va_up (va_up (va_up (va_up (va_up (va_up (va_up (va_up (fun _ => none) (0 : Int32).toNatClampNeg (some q_12)) (1 : Int32).toNatClampNeg (some q_14)) (2 : Int32).toNatClampNeg (some q_16)) (3 : Int32).toNatClampNeg (some q_18)) (4 : Int32).toNatClampNeg (some q_20)) (5 : Int32).toNatClampNeg (some q_22)) (6 : Int32).toNatClampNeg (some q_24)) (7 : Int32).toNatClampNeg (some q_26)) (8 : Int32).toNatClampNeg (some q_28)) (9 : Int32).toNatClampNeg (some q_30)) (10 : Int32).toNatClampNeg (some q_32))))))), (q_34, .inr (4, [.long 0, .long 0, .long 0, .int 0, .int 0]))] := hD
  refine W.widen (k := 17) (n := 84) (zl_b rfl) (zl_b rfl) ?_
  refine lv_dup hx hb dX1_init_57 rfl ?_
  have hFc := va_free (wc := [(q_34, .inr (4, [.long 0, .long 0, .long 0, .int 0, .int 0]))]) hD hS hA [2] rfl
  refine va_callv (va_runIN (As := []) (rest := [.ref q_34, .int 11, .ref q_9]) ⟨hx, hb, hml, hown, hts⟩ (c_St_init l dC dI H.size t q_34) ⟨va_cnB 0 hts (zg_c kw_151) rfl rfl rfl (zT_nX1_31 hQ.1) (hts _ kw_69) (by decide +kernel) ⟨Nat.le_of_ble_eq_true rfl, Nat.le_of_ble_eq_true rfl⟩, rfl, (hts _ kw_150)⟩ ⟨zA_blind, zA_pre hP hD hS hK hQ hA [2] rfl rfl (by decide) [] rfl⟩ rfl rfl hl.1 rfl (lv_room (Nat.le_of_ble_eq_true rfl)) dX1_init_58 ⟨zl_b rfl, zl_b rfl⟩) hS (fun q _ h => hFc q h) hFc (fun u t9 H1 locs ht hvm hw hB hz1 hk1 hS => ?_)
  obtain ⟨hP1, hK1, hD1⟩ := hB
  rw [ht] at hP1
  have hK1 := va_K.moved hvm.symm hK1
  obtain ⟨hP, hD⟩ := va_join (wr := [(h0, .inr (3, [.ref q_1, .ref q_3, .ref q_5, .ref q_7, .ref q_9, .long 0, .int 0, .int 0, .int 0, .int 0, .long 0, .long 0, .long 0, .int 0, .int 0, .int 0, .int 0])), (q_9, .inl (k_10, 12, .inr (.inr (.inr (.inr (va_up (va_up (va_up (va_up (va_up (va_up (va_up (va_up (va_up (va_up (va_up (fun _ => none) (0 : Int32).toNatClampNeg (some q_12)) (1 : Int32).toNatClampNeg (some q_14)) (2 : Int32).toNatClampNeg (some q_16)) (3 : Int32).toNatClampNeg (some q_18)) (4 : Int32).toNatClampNeg (some q_20)) (5 : Int32).toNatClampNeg (some q_22)) (6 : Int32).toNatClampNeg (some q_24)) (7 : Int32).toNatClampNeg (some q_26)) (8 : Int32).toNatClampNeg (some q_28)) (9 : Int32).toNatClampNeg (some q_30)) (10 : Int32).toNatClampNeg (some q_32)))))))]) (w1 := [(q_34, .inr (4, [.long 0, .long 0, .long 0, .int 0, .int 0]))]) hP hD [2] [0, 1] rfl rfl (by decide) (by decide) hk1 hFc hP1 hD1
  have hK := (hK.sub (tys' := [(k_2, .long), (k_4, .long), (k_6, .int), (k_8, .int), (k_10, .object "StatementCycle$Statement")]) [0, 1, 2, 3, 4] rfl).app hK1
  generalize H1 = H at hP hS ⊢
  have hP : va_P (dC, dI) zc [(h0, .inr (3, [.ref q_1, .ref q_3, .ref q_5, .ref q_7, .ref q_9, .long 0, .int 0, .int 0, .int 0, .int 0, .long 0, .long 0, .long 0, .int 0, .int 0, .int 0, .int 0])), (q_9, .inl (k_10, 12, .inr (.inr (.inr (.inr (va_up (va_up (va_up (va_up (va_up (va_up (va_up (va_up (va_up (va_up (va_up (fun _ => none) (0 : Int32).toNatClampNeg (some q_12)) (1 : Int32).toNatClampNeg (some q_14)) (2 : Int32).toNatClampNeg (some q_16)) (3 : Int32).toNatClampNeg (some q_18)) (4 : Int32).toNatClampNeg (some q_20)) (5 : Int32).toNatClampNeg (some q_22)) (6 : Int32).toNatClampNeg (some q_24)) (7 : Int32).toNatClampNeg (some q_26)) (8 : Int32).toNatClampNeg (some q_28)) (9 : Int32).toNatClampNeg (some q_30)) (10 : Int32).toNatClampNeg (some q_32))))))), (q_34, .inr (4, [.long 0, .long 0, .long 0, .int 0, .int 0]))] H := hP
  have hD : va_D A [(h0, .inr (3, [.ref q_1, .ref q_3, .ref q_5, .ref q_7, .ref q_9, .long 0, .int 0, .int 0, .int 0, .int 0, .long 0, .long 0, .long 0, .int 0, .int 0, .int 0, .int 0])), (q_9, .inl (k_10, 12, .inr (.inr (.inr (.inr (va_up (va_up (va_up (va_up (va_up (va_up (va_up (va_up (va_up (va_up (va_up (fun _ => none) (0 : Int32).toNatClampNeg (some q_12)) (1 : Int32).toNatClampNeg (some q_14)) (2 : Int32).toNatClampNeg (some q_16)) (3 : Int32).toNatClampNeg (some q_18)) (4 : Int32).toNatClampNeg (some q_20)) (5 : Int32).toNatClampNeg (some q_22)) (6 : Int32).toNatClampNeg (some q_24)) (7 : Int32).toNatClampNeg (some q_26)) (8 : Int32).toNatClampNeg (some q_28)) (9 : Int32).toNatClampNeg (some q_30)) (10 : Int32).toNatClampNeg (some q_32))))))), (q_34, .inr (4, [.long 0, .long 0, .long 0, .int 0, .int 0]))] := hD
  have hK : va_K (dC, dI) zc [(k_2, .long), (k_4, .long), (k_6, .int), (k_8, .int), (k_10, .object "StatementCycle$Statement")] s := hK
  refine va_astq hx hb hK hP hD hS 1 4 2 4 rfl rfl rfl rfl (by unfold vp_in; decide) dX1_init_61 (fun H locs hP hD hS => ?_)
  have hP : va_P (dC, dI) zc [(h0, .inr (3, [.ref q_1, .ref q_3, .ref q_5, .ref q_7, .ref q_9, .long 0, .int 0, .int 0, .int 0, .int 0, .long 0, .long 0, .long 0, .int 0, .int 0, .int 0, .int 0])), (q_9, .inl (k_10, 12, .inr (.inr (.inr (.inr (va_up (va_up (va_up (va_up (va_up (va_up (va_up (va_up (va_up (va_up (va_up (va_up (fun _ => none) (0 : Int32).toNatClampNeg (some q_12)) (1 : Int32).toNatClampNeg (some q_14)) (2 : Int32).toNatClampNeg (some q_16)) (3 : Int32).toNatClampNeg (some q_18)) (4 : Int32).toNatClampNeg (some q_20)) (5 : Int32).toNatClampNeg (some q_22)) (6 : Int32).toNatClampNeg (some q_24)) (7 : Int32).toNatClampNeg (some q_26)) (8 : Int32).toNatClampNeg (some q_28)) (9 : Int32).toNatClampNeg (some q_30)) (10 : Int32).toNatClampNeg (some q_32)) (11 : Int32).toNatClampNeg (some q_34))))))), (q_34, .inr (4, [.long 0, .long 0, .long 0, .int 0, .int 0]))] H := hP
  have hD : va_D A [(h0, .inr (3, [.ref q_1, .ref q_3, .ref q_5, .ref q_7, .ref q_9, .long 0, .int 0, .int 0, .int 0, .int 0, .long 0, .long 0, .long 0, .int 0, .int 0, .int 0, .int 0])), (q_9, .inl (k_10, 12, .inr (.inr (.inr (.inr (va_up (va_up (va_up (va_up (va_up (va_up (va_up (va_up (va_up (va_up (va_up (va_up (fun _ => none) (0 : Int32).toNatClampNeg (some q_12)) (1 : Int32).toNatClampNeg (some q_14)) (2 : Int32).toNatClampNeg (some q_16)) (3 : Int32).toNatClampNeg (some q_18)) (4 : Int32).toNatClampNeg (some q_20)) (5 : Int32).toNatClampNeg (some q_22)) (6 : Int32).toNatClampNeg (some q_24)) (7 : Int32).toNatClampNeg (some q_26)) (8 : Int32).toNatClampNeg (some q_28)) (9 : Int32).toNatClampNeg (some q_30)) (10 : Int32).toNatClampNeg (some q_32)) (11 : Int32).toNatClampNeg (some q_34))))))), (q_34, .inr (4, [.long 0, .long 0, .long 0, .int 0, .int 0]))] := hD
  have hP : va_P (dC, dI) zc [(h0, .inr (3, [.ref q_1, .ref q_3, .ref q_5, .ref q_7, .ref q_9, .long 0, .int 0, .int 0, .int 0, .int 0, .long 0, .long 0, .long 0, .int 0, .int 0, .int 0, .int 0])), (q_9, .inl (k_10, 12, .inr (.inr (.inr (.inr (va_up (va_up (va_up (va_up (va_up (va_up (va_up (va_up (va_up (va_up (va_up (va_up (fun _ => none) (0 : Int32).toNatClampNeg (some q_12)) (1 : Int32).toNatClampNeg (some q_14)) (2 : Int32).toNatClampNeg (some q_16)) (3 : Int32).toNatClampNeg (some q_18)) (4 : Int32).toNatClampNeg (some q_20)) (5 : Int32).toNatClampNeg (some q_22)) (6 : Int32).toNatClampNeg (some q_24)) (7 : Int32).toNatClampNeg (some q_26)) (8 : Int32).toNatClampNeg (some q_28)) (9 : Int32).toNatClampNeg (some q_30)) (10 : Int32).toNatClampNeg (some q_32)) (11 : Int32).toNatClampNeg (some q_34)))))))] H := hP.sub [0, 1] rfl
  have hD : va_D A [(h0, .inr (3, [.ref q_1, .ref q_3, .ref q_5, .ref q_7, .ref q_9, .long 0, .int 0, .int 0, .int 0, .int 0, .long 0, .long 0, .long 0, .int 0, .int 0, .int 0, .int 0])), (q_9, .inl (k_10, 12, .inr (.inr (.inr (.inr (va_up (va_up (va_up (va_up (va_up (va_up (va_up (va_up (va_up (va_up (va_up (va_up (fun _ => none) (0 : Int32).toNatClampNeg (some q_12)) (1 : Int32).toNatClampNeg (some q_14)) (2 : Int32).toNatClampNeg (some q_16)) (3 : Int32).toNatClampNeg (some q_18)) (4 : Int32).toNatClampNeg (some q_20)) (5 : Int32).toNatClampNeg (some q_22)) (6 : Int32).toNatClampNeg (some q_24)) (7 : Int32).toNatClampNeg (some q_26)) (8 : Int32).toNatClampNeg (some q_28)) (9 : Int32).toNatClampNeg (some q_30)) (10 : Int32).toNatClampNeg (some q_32)) (11 : Int32).toNatClampNeg (some q_34)))))))] := hD.sub [0, 1] (by decide) rfl
  refine lv_iinc (v := 12) (lv' := [(1, .int 12), (0, .ref h0)]) hx hb dX1_init_62 hl (k := 0) rfl (by decide) (by decide) rfl (fun ls hl => ?_)
  refine lv_goto (tgt := 43) hx hb dX1_init_65 (by decide) ?_
  refine lv_iload_n hx hb dX1_init_43 rfl (lv_at hl 0 rfl) ?_
  refine lv_bipush (v := 12) hx hb dX1_init_44 (by decide) ?_
  refine lv_icmp_ge (tgt := 68) hx hb dX1_init_46 (by decide) (fun c_35 => ?_) (fun c_35 => absurd c_35 (by decide))
  have hP9 := hP.sub (ws' := []) [] rfl
  have hD9 := hD.sub (ws' := []) [] (by decide) rfl
  have hK9 := hK.sub (tys' := []) [] rfl
  exact W.vret hx hb hr (fun t ht hW => ⟨⟨(), rfl, trivial, by rw [ht]; exact hP9, va_K.moved hW.alike hK9, hD9⟩, hS.F ht⟩) hS.2.2 dX1_init_68
set_option maxHeartbeats 4000000 in
set_option maxRecDepth 100000 in
/-- StatementCycle() -/
theorem c_SC_init (l : Launch) (dC : Nat → ClassId) (dI : Nat → Nat → Nat) (sz t : Nat) (h0 : Nat) : Met l yX4_init ws_X4_init ({ frames := 4, cells := 20, slots := 108, locals := 72 }) (zA dC dI [(h0, .inr (5, [.null, .null, .null, .int 0]))] [] sz t [.ref h0]) (va_Qv (fun _ : Unit => True) (fun _ t9 => ∃ (q1 q2 q3 : Nat) (k1 : ClassId), zB dC dI (va_A [(h0, .inr (5, [.null, .null, .null, .int 0]))] sz) [(h0, .inr (5, [.ref q1, .ref q2, .ref q3, .int 0])), (q1, .inr (0, [.int 0, .ref t, .int 0])), (q2, .inl (k1, 4, .inl (zW)))] [(k1, .int)] t9) (va_A [(h0, .inr (5, [.null, .null, .null, .int 0]))] sz)) 20 108 (va_A [(h0, .inr (5, [.null, .null, .null, .int 0]))] sz) := by
  refine Met.ofW (cc := cX4_init) (maxL := 1) (ret := none) (by decide) rfl ?_
  intro p e s m args below meth c s₁ B hml hv
  obtain ⟨rfl, hsz, hP, hK, hD0, hQ⟩ := hv
  have hx := B.exec
  have hb := B.bytes
  have hr := B.returns
  have hts : ∀ w ∈ zG, w.before _ s = true := fun w h => atoms_spec (ws := ws_X4_init) B.pre w (List.mem_cons_of_mem _ h)
  have hown : s.vm.findClass RX4 = some m.cls := findClass_of_methodNamed B.named
  have hlocks := B.notSynchronized
  have hin : meth.name = "<init>" := (name_of_methodNamed B.named B.method).1
  subst hsz
  have hD := hD0.self (sz := s.heap.size)
  generalize hAe : va_A [(h0, .inr (5, [.null, .null, .null, .int 0]))] s.heap.size = A at hD hQ ⊢
  have hA : ∀ q : Nat, s.heap.size ≤ q → A q := fun q h => by rw [← hAe]; exact Or.inr h
  have hS : va_S A s.heap s.heap [] := va_S.rf
  have hP : va_P (dC, dI) zc [(h0, .inr (5, [.null, .null, .null, .int 0]))] s.heap := hP
  have hl := lv_entry ([.ref h0]) (n := 1) (Nat.le_of_ble_eq_true rfl)
  rw [lg_entry_eq]
  generalize (lg_sl ([.ref h0]) ++ List.replicate (1 - (lg_sl ([.ref h0])).length) Slot.unset).toArray = ls at hl ⊢
  have hl : lv_has ls 1 [(0, .ref h0)] := hl
  refine lv_aload_n hx hb dX4_init_0 rfl (lv_at hl 0 rfl) ?_
  refine W.objInit hx hb hown (hts _ kw_108) (hts _ kw_109) (hts _ kw_110) rfl (by rw [hml]; exact hl.1) rfl dX4_init_1 (Nat.le_of_ble_eq_true rfl) (Nat.le_of_ble_eq_true rfl) ?_
  refine W.eq (g2 := F0 m 4 ls []) rfl ?_
  refine lv_aload_n hx hb dX4_init_4 rfl (lv_at hl 0 rfl) ?_
  refine va_new (ci := 0) (fs := [.int 0, .null, .int 0]) (C := RJx4a65c) (T := TJx4a65c) (N := 3) hx hb hts iJx4a65c tyJx4a65c tyJx4a65c_ok hown (hts _ kw_111) (hts _ kw_112) (hts _ kw_67) hK hP hD hS hA rfl z_dfJx4a65c (zl_b rfl) (zl_b rfl) dX4_init_5 (fun q_1 H hP hD hS => ?_)
  have hP : va_P (dC, dI) zc [(h0, .inr (5, [.null, .null, .null, .int 0])), (q_1, .inr (0, [.int 0, .null, .int 0]))] H := hP
  have hD : va_D A [(h0, .inr (5, [.null, .null, .null, .int 0])), (q_1, .inr (0, [.int 0, .null, .int 0]))] := hD
  refine W.widen (k := 1) (n := 3) (zl_b rfl) (zl_b rfl) ?_
  refine lv_dup hx hb dX4_init_8 rfl ?_
  have hFc := va_free (wc := [(q_1, .inr (0, [.int 0, .null, .int 0]))]) hD hS hA [1] rfl
  refine va_callv (va_runI (As := []) (rest := [.ref q_1, .ref h0]) ⟨hx, hb, hml, hown, hts⟩ (c_AL_init l dC dI H.size t q_1) (cwI 0 hts (zg_c kw_115) rfl rfl rfl (hts _ kw_67) (hts _ kw_113) (hts _ kw_114) rfl (by decide +kernel) ⟨Nat.le_of_ble_eq_true rfl, Nat.le_of_ble_eq_true rfl⟩) ⟨zA_blind, zA_pre hP hD hS hK hQ hA [1] rfl rfl (by decide) [] rfl⟩ rfl rfl hl.1 rfl (lv_room (Nat.le_of_ble_eq_true rfl)) dX4_init_9 ⟨zl_b rfl, zl_b rfl⟩) hS (fun q _ h => hFc q h) hFc (fun u t9 H1 locs ht hvm hw hB hz1 hk1 hS => ?_)
  obtain ⟨hP1, hK1, hD1⟩ := hB
  rw [ht] at hP1
  have hK1 := va_K.moved hvm.symm hK1
  obtain ⟨hP, hD⟩ := va_join (wr := [(h0, .inr (5, [.null, .null, .null, .int 0]))]) (w1 := [(q_1, .inr (0, [.int 0, .ref t, .int 0]))]) hP hD [1] [0] rfl rfl (by decide) (by decide) hk1 hFc hP1 hD1
  have hK := (hK.sub (tys' := []) [] rfl).app hK1
  generalize H1 = H at hP hS ⊢
  have hP : va_P (dC, dI) zc [(h0, .inr (5, [.null, .null, .null, .int 0])), (q_1, .inr (0, [.int 0, .ref t, .int 0]))] H := hP
  have hD : va_D A [(h0, .inr (5, [.null, .null, .null, .int 0])), (q_1, .inr (0, [.int 0, .ref t, .int 0]))] := hD
  have hK : va_K (dC, dI) zc [] s := hK
  refine va_putF (D := (dC, dI)) (ci := 5) (v := .ref q_1) (ty := .object "java/util/ArrayList") (C := RX4) (T := TX4) (N := 4) hx hb hts iX4 tyX4 tyX4_ok nmX4 hown hK hP hD hS 0 rfl rfl 0 (by decide) (hts _ kw_240) (fun _ h9 => h9) rfl hin rfl (by decide +kernel) rfl rfl (Nat.le_of_ble_eq_true rfl) dX4_init_12 (fun H locs hP hD hS => ?_)
  have hP : va_P (dC, dI) zc [(h0, .inr (5, [.ref q_1, .null, .null, .int 0])), (q_1, .inr (0, [.int 0, .ref t, .int 0]))] H := hP
  have hD : va_D A [(h0, .inr (5, [.ref q_1, .null, .null, .int 0])), (q_1, .inr (0, [.int 0, .ref t, .int 0]))] := hD
  refine lv_aload_n hx hb dX4_init_15 rfl (lv_at hl 0 rfl) ?_
  refine lv_iconst (v := 4) hx hb dX4_init_16 (by decide) ?_
  refine va_newa (atype := .int) (ty := .int) (a0 := (4, .inl (fun _ => 0))) hx hb (hts _ kw_179) rfl hK hP hD hS hA (fun _ => rfl) (by decide) rfl (by decide) (zl_b rfl) (zl_b rfl) dX4_init_17 (fun q_2 k_3 H hK hP hD hS => ?_)
  have hP : va_P (dC, dI) zc [(h0, .inr (5, [.ref q_1, .null, .null, .int 0])), (q_1, .inr (0, [.int 0, .ref t, .int 0])), (q_2, .inl (k_3, 4, .inl (fun _ => 0)))] H := hP
  have hD : va_D A [(h0, .inr (5, [.ref q_1, .null, .null, .int 0])), (q_1, .inr (0, [.int 0, .ref t, .int 0])), (q_2, .inl (k_3, 4, .inl (fun _ => 0)))] := hD
  have hK : va_K (dC, dI) zc [(k_3, .int)] s := hK
  refine W.widen (k := 2) (n := 7) (zl_b rfl) (zl_b rfl) ?_
  refine lv_dup hx hb dX4_init_19 rfl ?_
  refine lv_iconst (v := 0) hx hb dX4_init_20 (by decide) ?_
  refine lv_sipush (v := 1000) hx hb dX4_init_21 (by decide) ?_
  refine va_iast hx hb hK hP hD hS 2 0 rfl rfl (by unfold vp_in; decide) dX4_init_24 (fun H locs hP hD hS => ?_)
  have hP : va_P (dC, dI) zc [(h0, .inr (5, [.ref q_1, .null, .null, .int 0])), (q_1, .inr (0, [.int 0, .ref t, .int 0])), (q_2, .inl (k_3, 4, .inl (upd (fun _ => 0) (0 : Int32).toNatClampNeg 1000)))] H := hP
  have hD : va_D A [(h0, .inr (5, [.ref q_1, .null, .null, .int 0])), (q_1, .inr (0, [.int 0, .ref t, .int 0])), (q_2, .inl (k_3, 4, .inl (upd (fun _ => 0) (0 : Int32).toNatClampNeg 1000)))] := hD
  refine lv_dup hx hb dX4_init_25 rfl ?_
  refine lv_iconst (v := 1) hx hb dX4_init_26 (by decide) ?_
  refine lv_sipush (v := 1000) hx hb dX4_init_27 (by decide) ?_
  refine va_iast hx hb hK hP hD hS 2 0 rfl rfl (by unfold vp_in; decide) dX4_init_30 (fun H locs hP hD hS => ?_)
  have hP : va_P (dC, dI) zc [(h0, .inr (5, [.ref q_1, .null, .null, .int 0])), (q_1, .inr (0, [.int 0, .ref t, .int 0])), (q_2, .inl (k_3, 4, .inl (upd (upd (fun _ => 0) (0 : Int32).toNatClampNeg 1000) (1 : Int32).toNatClampNeg 1000)))] H := hP
  have hD : va_D A [(h0, .inr (5, [.ref q_1, .null, .null, .int 0])), (q_1, .inr (0, [.int 0, .ref t, .int 0])), (q_2, .inl (k_3, 4, .inl (upd (upd (fun _ => 0) (0 : Int32).toNatClampNeg 1000) (1 : Int32).toNatClampNeg 1000)))] := hD
  refine lv_dup hx hb dX4_init_31 rfl ?_
  refine lv_iconst (v := 2) hx hb dX4_init_32 (by decide) ?_
  refine lv_sipush (v := 1000) hx hb dX4_init_33 (by decide) ?_
  refine va_iast hx hb hK hP hD hS 2 0 rfl rfl (by unfold vp_in; decide) dX4_init_36 (fun H locs hP hD hS => ?_)
  have hP : va_P (dC, dI) zc [(h0, .inr (5, [.ref q_1, .null, .null, .int 0])), (q_1, .inr (0, [.int 0, .ref t, .int 0])), (q_2, .inl (k_3, 4, .inl (upd (upd (upd (fun _ => 0) (0 : Int32).toNatClampNeg 1000) (1 : Int32).toNatClampNeg 1000) (2 : Int32).toNatClampNeg 1000)))] H := hP
  have hD : va_D A [(h0, .inr (5, [.ref q_1, .null, .null, .int 0])), (q_1, .inr (0, [.int 0, .ref t, .int 0])), (q_2, .inl (k_3, 4, .inl (upd (upd (upd (fun _ => 0) (0 : Int32).toNatClampNeg 1000) (1 : Int32).toNatClampNeg 1000) (2 : Int32).toNatClampNeg 1000)))] := hD
  refine lv_dup hx hb dX4_init_37 rfl ?_
  refine lv_iconst (v := 3) hx hb dX4_init_38 (by decide) ?_
  refine lv_sipush (v := 1000) hx hb dX4_init_39 (by decide) ?_
  refine va_iast hx hb hK hP hD hS 2 0 rfl rfl (by unfold vp_in; decide) dX4_init_42 (fun H locs hP hD hS => ?_)
  have hP : va_P (dC, dI) zc [(h0, .inr (5, [.ref q_1, .null, .null, .int 0])), (q_1, .inr (0, [.int 0, .ref t, .int 0])), (q_2, .inl (k_3, 4, .inl (upd (upd (upd (upd (fun _ => 0) (0 : Int32).toNatClampNeg 1000) (1 : Int32).toNatClampNeg 1000) (2 : Int32).toNatClampNeg 1000) (3 : Int32).toNatClampNeg 1000)))] H := hP
  have hD : va_D A [(h0, .inr (5, [.ref q_1, .null, .null, .int 0])), (q_1, .inr (0, [.int 0, .ref t, .int 0])), (q_2, .inl (k_3, 4, .inl (upd (upd (upd (upd (fun _ => 0) (0 : Int32).toNatClampNeg 1000) (1 : Int32).toNatClampNeg 1000) (2 : Int32).toNatClampNeg 1000) (3 : Int32).toNatClampNeg 1000)))] := hD
  refine va_putF (D := (dC, dI)) (ci := 5) (v := .ref q_2) (ty := .array (.int)) (C := RX4) (T := TX4) (N := 4) hx hb hts iX4 tyX4 tyX4_ok nmX4 hown hK hP hD hS 0 rfl rfl 1 (by decide) (hts _ kw_241) (fun _ h9 => h9) rfl hin rfl (by decide +kernel) rfl rfl (Nat.le_of_ble_eq_true rfl) dX4_init_43 (fun H locs hP hD hS => ?_)
  have hP : va_P (dC, dI) zc [(h0, .inr (5, [.ref q_1, .ref q_2, .null, .int 0])), (q_1, .inr (0, [.int 0, .ref t, .int 0])), (q_2, .inl (k_3, 4, .inl (upd (upd (upd (upd (fun _ => 0) (0 : Int32).toNatClampNeg 1000) (1 : Int32).toNatClampNeg 1000) (2 : Int32).toNatClampNeg 1000) (3 : Int32).toNatClampNeg 1000)))] H := hP
  have hD : va_D A [(h0, .inr (5, [.ref q_1, .ref q_2, .null, .int 0])), (q_1, .inr (0, [.int 0, .ref t, .int 0])), (q_2, .inl (k_3, 4, .inl (upd (upd (upd (upd (fun _ => 0) (0 : Int32).toNatClampNeg 1000) (1 : Int32).toNatClampNeg 1000) (2 : Int32).toNatClampNeg 1000) (3 : Int32).toNatClampNeg 1000)))] := hD
  refine lv_aload_n hx hb dX4_init_46 rfl (lv_at hl 0 rfl) ?_
  refine va_new (ci := 3) (fs := [.null, .null, .null, .null, .null, .long 0, .int 0, .int 0, .int 0, .int 0, .long 0, .long 0, .long 0, .int 0, .int 0, .int 0, .int 0]) (C := RX1) (T := TX1) (N := 17) hx hb hts iX1 tyX1 tyX1_ok hown (hts _ kw_140) (hts _ kw_141) (hts _ kw_68) hK hP hD hS hA rfl z_dfX1 (zl_b rfl) (zl_b rfl) dX4_init_47 (fun q_4 H hP hD hS => ?_)
  have hP : va_P (dC, dI) zc [(h0, .inr (5, [.ref q_1, .ref q_2, .null, .int 0])), (q_1, .inr (0, [.int 0, .ref t, .int 0])), (q_2, .inl (k_3, 4, .inl (upd (upd (upd (upd (fun _ => 0) (0 : Int32).toNatClampNeg 1000) (1 : Int32).toNatClampNeg 1000) (2 : Int32).toNatClampNeg 1000) (3 : Int32).toNatClampNeg 1000))), (q_4, .inr (3, [.null, .null, .null, .null, .null, .long 0, .int 0, .int 0, .int 0, .int 0, .long 0, .long 0, .long 0, .int 0, .int 0, .int 0, .int 0]))] H := hP
  have hD : va_D A [(h0, .inr (5, [.ref q_1, .ref q_2, .null, .int 0])), (q_1, .inr (0, [.int 0, .ref t, .int 0])), (q_2, .inl (k_3, 4, .inl (upd (upd (upd (upd (fun _ => 0) (0 : Int32).toNatClampNeg 1000) (1 : Int32).toNatClampNeg 1000) (2 : Int32).toNatClampNeg 1000) (3 : Int32).toNatClampNeg 1000))), (q_4, .inr (3, [.null, .null, .null, .null, .null, .long 0, .int 0, .int 0, .int 0, .int 0, .long 0, .long 0, .long 0, .int 0, .int 0, .int 0, .int 0]))] := hD
  refine W.widen (k := 3) (n := 24) (zl_b rfl) (zl_b rfl) ?_
  refine lv_dup hx hb dX4_init_50 rfl ?_
  have hFc := va_free (wc := [(q_4, .inr (3, [.null, .null, .null, .null, .null, .long 0, .int 0, .int 0, .int 0, .int 0, .long 0, .long 0, .long 0, .int 0, .int 0, .int 0, .int 0]))]) hD hS hA [3] rfl
  refine va_callv (va_runIN (As := []) (rest := [.ref q_4, .ref h0]) ⟨hx, hb, hml, hown, hts⟩ (c_Bk_init l dC dI H.size t q_4) ⟨va_cnB 0 hts (zg_c kw_144) rfl rfl rfl (zT_nX4_22 hQ.1) (hts _ kw_68) (by decide +kernel) ⟨Nat.le_of_ble_eq_true rfl, Nat.le_of_ble_eq_true rfl⟩, rfl, (hts _ kw_143)⟩ ⟨zA_blind, zA_pre hP hD hS hK hQ hA [3] rfl rfl (by decide) [] rfl⟩ rfl rfl hl.1 rfl (lv_room (Nat.le_of_ble_eq_true rfl)) dX4_init_51 ⟨zl_b rfl, zl_b rfl⟩) hS (fun q _ h => hFc q h) hFc (fun u t9 H1 locs ht hvm hw hB hz1 hk1 hS => ?_)
  obtain ⟨hP1, hK1, hD1⟩ := hB
  rw [ht] at hP1
  have hK1 := va_K.moved hvm.symm hK1
  obtain ⟨hP, hD⟩ := va_join (wr := [(h0, .inr (5, [.ref q_1, .ref q_2, .null, .int 0])), (q_1, .inr (0, [.int 0, .ref t, .int 0])), (q_2, .inl (k_3, 4, .inl (upd (upd (upd (upd (fun _ => 0) (0 : Int32).toNatClampNeg 1000) (1 : Int32).toNatClampNeg 1000) (2 : Int32).toNatClampNeg 1000) (3 : Int32).toNatClampNeg 1000)))]) (w1 := []) hP hD [3] [0, 1, 2] rfl rfl (by decide) (by decide) hk1 hFc hP1 hD1
  have hK := (hK.sub (tys' := [(k_3, .int)]) [0] rfl).app hK1
  generalize H1 = H at hP hS ⊢
  have hP : va_P (dC, dI) zc [(h0, .inr (5, [.ref q_1, .ref q_2, .null, .int 0])), (q_1, .inr (0, [.int 0, .ref t, .int 0])), (q_2, .inl (k_3, 4, .inl (upd (upd (upd (upd (fun _ => 0) (0 : Int32).toNatClampNeg 1000) (1 : Int32).toNatClampNeg 1000) (2 : Int32).toNatClampNeg 1000) (3 : Int32).toNatClampNeg 1000)))] H := hP
  have hD : va_D A [(h0, .inr (5, [.ref q_1, .ref q_2, .null, .int 0])), (q_1, .inr (0, [.int 0, .ref t, .int 0])), (q_2, .inl (k_3, 4, .inl (upd (upd (upd (upd (fun _ => 0) (0 : Int32).toNatClampNeg 1000) (1 : Int32).toNatClampNeg 1000) (2 : Int32).toNatClampNeg 1000) (3 : Int32).toNatClampNeg 1000)))] := hD
  have hK : va_K (dC, dI) zc [(k_3, .int)] s := hK
  refine W.widen (k := 20) (n := 108) (zl_b rfl) (zl_b rfl) ?_
  refine va_putF (D := (dC, dI)) (ci := 5) (v := .ref q_4) (ty := .object "StatementCycle$Books") (C := RX4) (T := TX4) (N := 4) hx hb hts iX4 tyX4 tyX4_ok nmX4 hown hK hP hD hS 0 rfl rfl 2 (by decide) (hts _ kw_242) (fun _ h9 => h9) rfl hin rfl (by decide +kernel) rfl rfl (Nat.le_of_ble_eq_true rfl) dX4_init_54 (fun H locs hP hD hS => ?_)
  have hP : va_P (dC, dI) zc [(h0, .inr (5, [.ref q_1, .ref q_2, .ref q_4, .int 0])), (q_1, .inr (0, [.int 0, .ref t, .int 0])), (q_2, .inl (k_3, 4, .inl (upd (upd (upd (upd (fun _ => 0) (0 : Int32).toNatClampNeg 1000) (1 : Int32).toNatClampNeg 1000) (2 : Int32).toNatClampNeg 1000) (3 : Int32).toNatClampNeg 1000)))] H := hP
  have hD : va_D A [(h0, .inr (5, [.ref q_1, .ref q_2, .ref q_4, .int 0])), (q_1, .inr (0, [.int 0, .ref t, .int 0])), (q_2, .inl (k_3, 4, .inl (upd (upd (upd (upd (fun _ => 0) (0 : Int32).toNatClampNeg 1000) (1 : Int32).toNatClampNeg 1000) (2 : Int32).toNatClampNeg 1000) (3 : Int32).toNatClampNeg 1000)))] := hD
  have hP : va_P (dC, dI) zc [(h0, .inr (5, [.ref q_1, .ref q_2, .ref q_4, .int 0])), (q_1, .inr (0, [.int 0, .ref t, .int 0])), (q_2, .inl (k_3, 4, .inl (zW)))] H := hP
  have hD : va_D A [(h0, .inr (5, [.ref q_1, .ref q_2, .ref q_4, .int 0])), (q_1, .inr (0, [.int 0, .ref t, .int 0])), (q_2, .inl (k_3, 4, .inl (zW)))] := hD
  have hP9 := hP.sub (ws' := [(h0, .inr (5, [.ref q_1, .ref q_2, .ref q_4, .int 0])), (q_1, .inr (0, [.int 0, .ref t, .int 0])), (q_2, .inl (k_3, 4, .inl (zW)))]) [0, 1, 2] rfl
  have hD9 := hD.sub (ws' := [(h0, .inr (5, [.ref q_1, .ref q_2, .ref q_4, .int 0])), (q_1, .inr (0, [.int 0, .ref t, .int 0])), (q_2, .inl (k_3, 4, .inl (zW)))]) [0, 1, 2] (by decide) rfl
  have hK9 := hK.sub (tys' := [(k_3, .int)]) [0] rfl
  exact W.vret hx hb hr (fun t ht hW => ⟨⟨(), rfl, trivial, q_1, q_2, q_4, k_3, by rw [ht]; exact hP9, va_K.moved hW.alike hK9, hD9⟩, hS.F ht⟩) hS.2.2 dX4_init_57
set_option maxHeartbeats 4000000 in
set_option maxRecDepth 100000 in
/-- StatementCycleModel() -/
theorem c_Md_init (l : Launch) (dC : Nat → ClassId) (dI : Nat → Nat → Nat) (sz t : Nat) (h0 : Nat) : Met l yX8_init ws_X8_init ({ frames := 4, cells := 2, slots := 7, locals := 72 }) (zA dC dI [(h0, .inr (7, [.null, .null, .int 0, .int 0]))] [] sz t [.ref h0]) (va_Qv (fun _ : Unit => True) (fun _ t9 => ∃ (q1 q2 : Nat) (k1 : ClassId), zB dC dI (va_A [(h0, .inr (7, [.null, .null, .int 0, .int 0]))] sz) [(h0, .inr (7, [.ref q1, .ref q2, .int 0, .int 0])), (q1, .inr (0, [.int 0, .ref t, .int 0])), (q2, .inl (k1, 4, .inl (zW)))] [(k1, .int)] t9) (va_A [(h0, .inr (7, [.null, .null, .int 0, .int 0]))] sz)) 2 7 (va_A [(h0, .inr (7, [.null, .null, .int 0, .int 0]))] sz) := by
  refine Met.ofW (cc := cX8_init) (maxL := 1) (ret := none) (by decide) rfl ?_
  intro p e s m args below meth c s₁ B hml hv
  obtain ⟨rfl, hsz, hP, hK, hD0, hQ⟩ := hv
  have hx := B.exec
  have hb := B.bytes
  have hr := B.returns
  have hts : ∀ w ∈ zG, w.before _ s = true := fun w h => atoms_spec (ws := ws_X8_init) B.pre w (List.mem_cons_of_mem _ h)
  have hown : s.vm.findClass RX8 = some m.cls := findClass_of_methodNamed B.named
  have hlocks := B.notSynchronized
  have hin : meth.name = "<init>" := (name_of_methodNamed B.named B.method).1
  subst hsz
  have hD := hD0.self (sz := s.heap.size)
  generalize hAe : va_A [(h0, .inr (7, [.null, .null, .int 0, .int 0]))] s.heap.size = A at hD hQ ⊢
  have hA : ∀ q : Nat, s.heap.size ≤ q → A q := fun q h => by rw [← hAe]; exact Or.inr h
  have hS : va_S A s.heap s.heap [] := va_S.rf
  have hP : va_P (dC, dI) zc [(h0, .inr (7, [.null, .null, .int 0, .int 0]))] s.heap := hP
  have hl := lv_entry ([.ref h0]) (n := 1) (Nat.le_of_ble_eq_true rfl)
  rw [lg_entry_eq]
  generalize (lg_sl ([.ref h0]) ++ List.replicate (1 - (lg_sl ([.ref h0])).length) Slot.unset).toArray = ls at hl ⊢
  have hl : lv_has ls 1 [(0, .ref h0)] := hl
  refine lv_aload_n hx hb dX8_init_0 rfl (lv_at hl 0 rfl) ?_
  refine W.objInit hx hb hown (hts _ kw_1349) (hts _ kw_109) (hts _ kw_110) rfl (by rw [hml]; exact hl.1) rfl dX8_init_1 (Nat.le_of_ble_eq_true rfl) (Nat.le_of_ble_eq_true rfl) ?_
  refine W.eq (g2 := F0 m 4 ls []) rfl ?_
  refine lv_aload_n hx hb dX8_init_4 rfl (lv_at hl 0 rfl) ?_
  refine va_new (ci := 0) (fs := [.int 0, .null, .int 0]) (C := RJx4a65c) (T := TJx4a65c) (N := 3) hx hb hts iJx4a65c tyJx4a65c tyJx4a65c_ok hown (hts _ kw_1350) (hts _ kw_112) (hts _ kw_67) hK hP hD hS hA rfl z_dfJx4a65c (zl_b rfl) (zl_b rfl) dX8_init_5 (fun q_1 H hP hD hS => ?_)
  have hP : va_P (dC, dI) zc [(h0, .inr (7, [.null, .null, .int 0, .int 0])), (q_1, .inr (0, [.int 0, .null, .int 0]))] H := hP
  have hD : va_D A [(h0, .inr (7, [.null, .null, .int 0, .int 0])), (q_1, .inr (0, [.int 0, .null, .int 0]))] := hD
  refine W.widen (k := 1) (n := 3) (zl_b rfl) (zl_b rfl) ?_
  refine lv_dup hx hb dX8_init_8 rfl ?_
  have hFc := va_free (wc := [(q_1, .inr (0, [.int 0, .null, .int 0]))]) hD hS hA [1] rfl
  refine va_callv (va_runI (As := []) (rest := [.ref q_1, .ref h0]) ⟨hx, hb, hml, hown, hts⟩ (c_AL_init l dC dI H.size t q_1) (cwI 0 hts (zg_c kw_115) rfl rfl rfl (hts _ kw_67) (hts _ kw_1351) (hts _ kw_114) rfl (by decide +kernel) ⟨Nat.le_of_ble_eq_true rfl, Nat.le_of_ble_eq_true rfl⟩) ⟨zA_blind, zA_pre hP hD hS hK hQ hA [1] rfl rfl (by decide) [] rfl⟩ rfl rfl hl.1 rfl (lv_room (Nat.le_of_ble_eq_true rfl)) dX8_init_9 ⟨zl_b rfl, zl_b rfl⟩) hS (fun q _ h => hFc q h) hFc (fun u t9 H1 locs ht hvm hw hB hz1 hk1 hS => ?_)
  obtain ⟨hP1, hK1, hD1⟩ := hB
  rw [ht] at hP1
  have hK1 := va_K.moved hvm.symm hK1
  obtain ⟨hP, hD⟩ := va_join (wr := [(h0, .inr (7, [.null, .null, .int 0, .int 0]))]) (w1 := [(q_1, .inr (0, [.int 0, .ref t, .int 0]))]) hP hD [1] [0] rfl rfl (by decide) (by decide) hk1 hFc hP1 hD1
  have hK := (hK.sub (tys' := []) [] rfl).app hK1
  generalize H1 = H at hP hS ⊢
  have hP : va_P (dC, dI) zc [(h0, .inr (7, [.null, .null, .int 0, .int 0])), (q_1, .inr (0, [.int 0, .ref t, .int 0]))] H := hP
  have hD : va_D A [(h0, .inr (7, [.null, .null, .int 0, .int 0])), (q_1, .inr (0, [.int 0, .ref t, .int 0]))] := hD
  have hK : va_K (dC, dI) zc [] s := hK
  refine va_putF (D := (dC, dI)) (ci := 7) (v := .ref q_1) (ty := .object "java/util/List") (C := RX8) (T := TX8) (N := 4) hx hb hts iX8 tyX8 tyX8_ok nmX8 hown hK hP hD hS 0 rfl rfl 0 (by decide) (hts _ kw_1352) (fun _ h9 => h9) rfl hin rfl (by decide +kernel) rfl rfl (Nat.le_of_ble_eq_true rfl) dX8_init_12 (fun H locs hP hD hS => ?_)
  have hP : va_P (dC, dI) zc [(h0, .inr (7, [.ref q_1, .null, .int 0, .int 0])), (q_1, .inr (0, [.int 0, .ref t, .int 0]))] H := hP
  have hD : va_D A [(h0, .inr (7, [.ref q_1, .null, .int 0, .int 0])), (q_1, .inr (0, [.int 0, .ref t, .int 0]))] := hD
  refine lv_aload_n hx hb dX8_init_15 rfl (lv_at hl 0 rfl) ?_
  refine lv_iconst (v := 4) hx hb dX8_init_16 (by decide) ?_
  refine va_newa (atype := .int) (ty := .int) (a0 := (4, .inl (fun _ => 0))) hx hb (hts _ kw_179) rfl hK hP hD hS hA (fun _ => rfl) (by decide) rfl (by decide) (zl_b rfl) (zl_b rfl) dX8_init_17 (fun q_2 k_3 H hK hP hD hS => ?_)
  have hP : va_P (dC, dI) zc [(h0, .inr (7, [.ref q_1, .null, .int 0, .int 0])), (q_1, .inr (0, [.int 0, .ref t, .int 0])), (q_2, .inl (k_3, 4, .inl (fun _ => 0)))] H := hP
  have hD : va_D A [(h0, .inr (7, [.ref q_1, .null, .int 0, .int 0])), (q_1, .inr (0, [.int 0, .ref t, .int 0])), (q_2, .inl (k_3, 4, .inl (fun _ => 0)))] := hD
  have hK : va_K (dC, dI) zc [(k_3, .int)] s := hK
  refine W.widen (k := 2) (n := 7) (zl_b rfl) (zl_b rfl) ?_
  refine lv_dup hx hb dX8_init_19 rfl ?_
  refine lv_iconst (v := 0) hx hb dX8_init_20 (by decide) ?_
  refine lv_sipush (v := 1000) hx hb dX8_init_21 (by decide) ?_
  refine va_iast hx hb hK hP hD hS 2 0 rfl rfl (by unfold vp_in; decide) dX8_init_24 (fun H locs hP hD hS => ?_)
  have hP : va_P (dC, dI) zc [(h0, .inr (7, [.ref q_1, .null, .int 0, .int 0])), (q_1, .inr (0, [.int 0, .ref t, .int 0])), (q_2, .inl (k_3, 4, .inl (upd (fun _ => 0) (0 : Int32).toNatClampNeg 1000)))] H := hP
  have hD : va_D A [(h0, .inr (7, [.ref q_1, .null, .int 0, .int 0])), (q_1, .inr (0, [.int 0, .ref t, .int 0])), (q_2, .inl (k_3, 4, .inl (upd (fun _ => 0) (0 : Int32).toNatClampNeg 1000)))] := hD
  refine lv_dup hx hb dX8_init_25 rfl ?_
  refine lv_iconst (v := 1) hx hb dX8_init_26 (by decide) ?_
  refine lv_sipush (v := 1000) hx hb dX8_init_27 (by decide) ?_
  refine va_iast hx hb hK hP hD hS 2 0 rfl rfl (by unfold vp_in; decide) dX8_init_30 (fun H locs hP hD hS => ?_)
  have hP : va_P (dC, dI) zc [(h0, .inr (7, [.ref q_1, .null, .int 0, .int 0])), (q_1, .inr (0, [.int 0, .ref t, .int 0])), (q_2, .inl (k_3, 4, .inl (upd (upd (fun _ => 0) (0 : Int32).toNatClampNeg 1000) (1 : Int32).toNatClampNeg 1000)))] H := hP
  have hD : va_D A [(h0, .inr (7, [.ref q_1, .null, .int 0, .int 0])), (q_1, .inr (0, [.int 0, .ref t, .int 0])), (q_2, .inl (k_3, 4, .inl (upd (upd (fun _ => 0) (0 : Int32).toNatClampNeg 1000) (1 : Int32).toNatClampNeg 1000)))] := hD
  refine lv_dup hx hb dX8_init_31 rfl ?_
  refine lv_iconst (v := 2) hx hb dX8_init_32 (by decide) ?_
  refine lv_sipush (v := 1000) hx hb dX8_init_33 (by decide) ?_
  refine va_iast hx hb hK hP hD hS 2 0 rfl rfl (by unfold vp_in; decide) dX8_init_36 (fun H locs hP hD hS => ?_)
  have hP : va_P (dC, dI) zc [(h0, .inr (7, [.ref q_1, .null, .int 0, .int 0])), (q_1, .inr (0, [.int 0, .ref t, .int 0])), (q_2, .inl (k_3, 4, .inl (upd (upd (upd (fun _ => 0) (0 : Int32).toNatClampNeg 1000) (1 : Int32).toNatClampNeg 1000) (2 : Int32).toNatClampNeg 1000)))] H := hP
  have hD : va_D A [(h0, .inr (7, [.ref q_1, .null, .int 0, .int 0])), (q_1, .inr (0, [.int 0, .ref t, .int 0])), (q_2, .inl (k_3, 4, .inl (upd (upd (upd (fun _ => 0) (0 : Int32).toNatClampNeg 1000) (1 : Int32).toNatClampNeg 1000) (2 : Int32).toNatClampNeg 1000)))] := hD
  refine lv_dup hx hb dX8_init_37 rfl ?_
  refine lv_iconst (v := 3) hx hb dX8_init_38 (by decide) ?_
  refine lv_sipush (v := 1000) hx hb dX8_init_39 (by decide) ?_
  refine va_iast hx hb hK hP hD hS 2 0 rfl rfl (by unfold vp_in; decide) dX8_init_42 (fun H locs hP hD hS => ?_)
  have hP : va_P (dC, dI) zc [(h0, .inr (7, [.ref q_1, .null, .int 0, .int 0])), (q_1, .inr (0, [.int 0, .ref t, .int 0])), (q_2, .inl (k_3, 4, .inl (upd (upd (upd (upd (fun _ => 0) (0 : Int32).toNatClampNeg 1000) (1 : Int32).toNatClampNeg 1000) (2 : Int32).toNatClampNeg 1000) (3 : Int32).toNatClampNeg 1000)))] H := hP
  have hD : va_D A [(h0, .inr (7, [.ref q_1, .null, .int 0, .int 0])), (q_1, .inr (0, [.int 0, .ref t, .int 0])), (q_2, .inl (k_3, 4, .inl (upd (upd (upd (upd (fun _ => 0) (0 : Int32).toNatClampNeg 1000) (1 : Int32).toNatClampNeg 1000) (2 : Int32).toNatClampNeg 1000) (3 : Int32).toNatClampNeg 1000)))] := hD
  refine va_putF (D := (dC, dI)) (ci := 7) (v := .ref q_2) (ty := .array (.int)) (C := RX8) (T := TX8) (N := 4) hx hb hts iX8 tyX8 tyX8_ok nmX8 hown hK hP hD hS 0 rfl rfl 1 (by decide) (hts _ kw_1353) (fun _ h9 => h9) rfl hin rfl (by decide +kernel) rfl rfl (Nat.le_of_ble_eq_true rfl) dX8_init_43 (fun H locs hP hD hS => ?_)
  have hP : va_P (dC, dI) zc [(h0, .inr (7, [.ref q_1, .ref q_2, .int 0, .int 0])), (q_1, .inr (0, [.int 0, .ref t, .int 0])), (q_2, .inl (k_3, 4, .inl (upd (upd (upd (upd (fun _ => 0) (0 : Int32).toNatClampNeg 1000) (1 : Int32).toNatClampNeg 1000) (2 : Int32).toNatClampNeg 1000) (3 : Int32).toNatClampNeg 1000)))] H := hP
  have hD : va_D A [(h0, .inr (7, [.ref q_1, .ref q_2, .int 0, .int 0])), (q_1, .inr (0, [.int 0, .ref t, .int 0])), (q_2, .inl (k_3, 4, .inl (upd (upd (upd (upd (fun _ => 0) (0 : Int32).toNatClampNeg 1000) (1 : Int32).toNatClampNeg 1000) (2 : Int32).toNatClampNeg 1000) (3 : Int32).toNatClampNeg 1000)))] := hD
  have hP : va_P (dC, dI) zc [(h0, .inr (7, [.ref q_1, .ref q_2, .int 0, .int 0])), (q_1, .inr (0, [.int 0, .ref t, .int 0])), (q_2, .inl (k_3, 4, .inl (zW)))] H := hP
  have hD : va_D A [(h0, .inr (7, [.ref q_1, .ref q_2, .int 0, .int 0])), (q_1, .inr (0, [.int 0, .ref t, .int 0])), (q_2, .inl (k_3, 4, .inl (zW)))] := hD
  have hP9 := hP.sub (ws' := [(h0, .inr (7, [.ref q_1, .ref q_2, .int 0, .int 0])), (q_1, .inr (0, [.int 0, .ref t, .int 0])), (q_2, .inl (k_3, 4, .inl (zW)))]) [0, 1, 2] rfl
  have hD9 := hD.sub (ws' := [(h0, .inr (7, [.ref q_1, .ref q_2, .int 0, .int 0])), (q_1, .inr (0, [.int 0, .ref t, .int 0])), (q_2, .inl (k_3, 4, .inl (zW)))]) [0, 1, 2] (by decide) rfl
  have hK9 := hK.sub (tys' := [(k_3, .int)]) [0] rfl
  exact W.vret hx hb hr (fun t ht hW => ⟨⟨(), rfl, trivial, q_1, q_2, k_3, by rw [ht]; exact hP9, va_K.moved hW.alike hK9, hD9⟩, hS.F ht⟩) hS.2.2 dX8_init_46
set_option maxHeartbeats 4000000 in
set_option maxRecDepth 100000 in
/-- isIn: no -/
theorem c_isIn0 (l : Launch) (dC : Nat → ClassId) (dI : Nat → Nat → Nat) (sz t : Nat) (v lo hi : Int32) (hv9 : v < lo ∨ hi < v) : Met l yX8_isIn ws_X8_isIn ({ frames := 1, cells := 0, slots := 0, locals := 12 }) (zA dC dI [] [] sz t [.int v, .int lo, .int hi]) (vp_Si (fun r => r = 0)) 0 0 (fun _ => False) := by
  refine Met.ofW (cc := cX8_isIn) (maxL := 3) (ret := (some .boolean)) (by decide) rfl ?_
  intro p e s m args below meth c s₁ B hml hv
  obtain ⟨rfl, hsz, hP, hK, hD0, hQ⟩ := hv
  have hx := B.exec
  have hb := B.bytes
  have hr := B.returns
  have hts : ∀ w ∈ zG, w.before _ s = true := fun w h => atoms_spec (ws := ws_X8_isIn) B.pre w (List.mem_cons_of_mem _ h)
  have hown : s.vm.findClass RX8 = some m.cls := findClass_of_methodNamed B.named
  have hlocks := B.notSynchronized
  subst hsz
  have hD := hD0.self (sz := s.heap.size)
  generalize hAe : va_A [] s.heap.size = A at hD hQ
  have hA : ∀ q : Nat, s.heap.size ≤ q → A q := fun q h => by rw [← hAe]; exact Or.inr h
  have hS : va_S A s.heap s.heap [] := va_S.rf
  have hP : va_P (dC, dI) zc [] s.heap := hP
  have hl := lv_entry ([.int v, .int lo, .int hi]) (n := 3) (Nat.le_of_ble_eq_true rfl)
  rw [lg_entry_eq]
  generalize (lg_sl ([.int v, .int lo, .int hi]) ++ List.replicate (3 - (lg_sl ([.int v, .int lo, .int hi])).length) Slot.unset).toArray = ls at hl ⊢
  have hl : lv_has ls 3 [(0, .int v), (1, .int lo), (2, .int hi)] := hl
  refine lv_iload_n hx hb dX8_isIn_0 rfl (lv_at hl 0 rfl) ?_
  refine lv_iload_n hx hb dX8_isIn_1 rfl (lv_at hl 1 rfl) ?_
  refine lv_icmp_lt (tgt := 14) hx hb dX8_isIn_2 (by decide) (fun c_1 => ?_) (fun c_1 => ?_)
  · refine lv_iconst (v := 0) hx hb dX8_isIn_14 (by decide) ?_
    exact W.zret (ty := .boolean) hx hb hr rfl (fun t ht hW => ⟨_, rfl, rfl, ht⟩) (fun q hq => absurd hq List.not_mem_nil) dX8_isIn_15
  · refine lv_iload_n hx hb dX8_isIn_5 rfl (lv_at hl 0 rfl) ?_
    refine lv_iload_n hx hb dX8_isIn_6 rfl (lv_at hl 2 rfl) ?_
    refine lv_icmp_gt (tgt := 14) hx hb dX8_isIn_7 (by decide) (fun c_2 => ?_) (fun c_2 => absurd hv9 (fun z => z.elim c_1 c_2))
    refine lv_iconst (v := 0) hx hb dX8_isIn_14 (by decide) ?_
    exact W.zret (ty := .boolean) hx hb hr rfl (fun t ht hW => ⟨_, rfl, rfl, ht⟩) (fun q hq => absurd hq List.not_mem_nil) dX8_isIn_15
set_option maxHeartbeats 4000000 in
set_option maxRecDepth 100000 in
/-- isIn: yes -/
theorem c_isIn1 (l : Launch) (dC : Nat → ClassId) (dI : Nat → Nat → Nat) (sz t : Nat) (v lo hi : Int32) (hv1 : ¬ v < lo) (hv2 : ¬ hi < v) : Met l yX8_isIn ws_X8_isIn ({ frames := 1, cells := 0, slots := 0, locals := 12 }) (zA dC dI [] [] sz t [.int v, .int lo, .int hi]) (vp_Si (fun r => r = 1)) 0 0 (fun _ => False) := by
  refine Met.ofW (cc := cX8_isIn) (maxL := 3) (ret := (some .boolean)) (by decide) rfl ?_
  intro p e s m args below meth c s₁ B hml hv
  obtain ⟨rfl, hsz, hP, hK, hD0, hQ⟩ := hv
  have hx := B.exec
  have hb := B.bytes
  have hr := B.returns
  have hts : ∀ w ∈ zG, w.before _ s = true := fun w h => atoms_spec (ws := ws_X8_isIn) B.pre w (List.mem_cons_of_mem _ h)
  have hown : s.vm.findClass RX8 = some m.cls := findClass_of_methodNamed B.named
  have hlocks := B.notSynchronized
  subst hsz
  have hD := hD0.self (sz := s.heap.size)
  generalize hAe : va_A [] s.heap.size = A at hD hQ
  have hA : ∀ q : Nat, s.heap.size ≤ q → A q := fun q h => by rw [← hAe]; exact Or.inr h
  have hS : va_S A s.heap s.heap [] := va_S.rf
  have hP : va_P (dC, dI) zc [] s.heap := hP
  have hl := lv_entry ([.int v, .int lo, .int hi]) (n := 3) (Nat.le_of_ble_eq_true rfl)
  rw [lg_entry_eq]
  generalize (lg_sl ([.int v, .int lo, .int hi]) ++ List.replicate (3 - (lg_sl ([.int v, .int lo, .int hi])).length) Slot.unset).toArray = ls at hl ⊢
  have hl : lv_has ls 3 [(0, .int v), (1, .int lo), (2, .int hi)] := hl
  refine lv_iload_n hx hb dX8_isIn_0 rfl (lv_at hl 0 rfl) ?_
  refine lv_iload_n hx hb dX8_isIn_1 rfl (lv_at hl 1 rfl) ?_
  refine lv_icmp_lt (tgt := 14) hx hb dX8_isIn_2 (by decide) (fun c_1 => absurd c_1 hv1) (fun c_1 => ?_)
  refine lv_iload_n hx hb dX8_isIn_5 rfl (lv_at hl 0 rfl) ?_
  refine lv_iload_n hx hb dX8_isIn_6 rfl (lv_at hl 2 rfl) ?_
  refine lv_icmp_gt (tgt := 14) hx hb dX8_isIn_7 (by decide) (fun c_2 => absurd c_2 hv2) (fun c_2 => ?_)
  refine lv_iconst (v := 1) hx hb dX8_isIn_10 (by decide) ?_
  refine lv_goto (tgt := 15) hx hb dX8_isIn_11 (by decide) ?_
  exact W.zret (ty := .boolean) hx hb hr rfl (fun t ht hW => ⟨_, rfl, rfl, ht⟩) (fun q hq => absurd hq List.not_mem_nil) dX8_isIn_15
set_option maxHeartbeats 4000000 in
set_option maxRecDepth 100000 in
/-- isAccount: there is none -/
theorem c_isAccount (l : Launch) (dC : Nat → ClassId) (dI : Nat → Nat → Nat) (sz t : Nat) (h0 ac : Nat) (cu : Value) (dd th a : Int32) (ed : Value) : Met l yX8_isAccount ws_X8_isAccount ({ frames := 2, cells := 0, slots := 0, locals := 34 }) (zA dC dI [(h0, .inr (7, [.ref ac, cu, .int dd, .int th])), (ac, .inr (0, [.int 0, ed, .int 0]))] [] sz t [.ref h0, .int a]) (vp_Si (fun r => r = 0)) 0 0 (fun _ => False) := by
  refine Met.ofW (cc := cX8_isAccount) (maxL := 2) (ret := (some .boolean)) (by decide) rfl ?_
  intro p e s m args below meth c s₁ B hml hv
  obtain ⟨rfl, hsz, hP, hK, hD0, hQ⟩ := hv
  have hx := B.exec
  have hb := B.bytes
  have hr := B.returns
  have hts : ∀ w ∈ zG, w.before _ s = true := fun w h => atoms_spec (ws := ws_X8_isAccount) B.pre w (List.mem_cons_of_mem _ h)
  have hown : s.vm.findClass RX8 = some m.cls := findClass_of_methodNamed B.named
  have hlocks := B.notSynchronized
  subst hsz
  have hD := hD0.self (sz := s.heap.size)
  generalize hAe : va_A [(h0, .inr (7, [.ref ac, cu, .int dd, .int th])), (ac, .inr (0, [.int 0, ed, .int 0]))] s.heap.size = A at hD hQ
  have hA : ∀ q : Nat, s.heap.size ≤ q → A q := fun q h => by rw [← hAe]; exact Or.inr h
  have hS : va_S A s.heap s.heap [] := va_S.rf
  have hP : va_P (dC, dI) zc [(h0, .inr (7, [.ref ac, cu, .int dd, .int th])), (ac, .inr (0, [.int 0, ed, .int 0]))] s.heap := hP
  have hl := lv_entry ([.ref h0, .int a]) (n := 2) (Nat.le_of_ble_eq_true rfl)
  rw [lg_entry_eq]
  generalize (lg_sl ([.ref h0, .int a]) ++ List.replicate (2 - (lg_sl ([.ref h0, .int a])).length) Slot.unset).toArray = ls at hl ⊢
  have hl : lv_has ls 2 [(0, .ref h0), (1, .int a)] := hl
  refine lv_iload_n hx hb dX8_isAccount_0 rfl (lv_at hl 1 rfl) ?_
  refine lv_iconst (v := 0) hx hb dX8_isAccount_1 (by decide) ?_
  refine lv_aload_n hx hb dX8_isAccount_2 rfl (lv_at hl 0 rfl) ?_
  refine va_get (D := (dC, dI)) (ci := 7) (v := .ref ac) (C := RX8) (T := TX8) (N := 4) hx hb hts iX8 hown hK hP 0 rfl rfl 0 (by decide) (hts _ kw_1352) (fun _ h9 => h9) rfl dX8_isAccount_3 ?_
  refine va_csFi (va_runF (As := []) (rest := [.int 0, .int a]) ((hK.1 0 _ rfl).2) ⟨hx, hb, hml, hown, hts⟩ (c_AL_size l dC dI s.heap.size t ac 0 ed 0) (va_cwF 0 hts (zg_F kw_1382 kw_1386 kw_258 kw_67 kw_260) rfl rfl rfl (zT_fsize hQ.1) (by decide +kernel) ⟨Nat.le_of_ble_eq_true rfl, Nat.le_of_ble_eq_true rfl⟩) ⟨zA_blind, va_recv hK hP (ci := 0) (q0 := 1) rfl rfl, zA_pre hP hD hS hK hQ hA [1] rfl rfl (by decide) [] rfl⟩ rfl rfl hl.1 rfl (lv_room (Nat.le_of_ble_eq_true rfl)) dX8_isAccount_6 ⟨zl_b rfl, zl_b rfl⟩) (fun r hr => ?_)
  subst hr
  refine lv_iconst (v := 1) hx hb dX8_isAccount_11 (by decide) ?_
  refine lv_isub hx hb dX8_isAccount_12 ?_
  refine lv_topi (fun x_1 e_x_1 => ?_)
  obtain rfl : x_1 = (-1) := by rw [e_x_1]; decide
  refine vp_callSi (W.runS (As := [.int a, .int 0, .int (-1)]) (rest := []) ⟨hx, hb, hml, hown, hts⟩ (c_isIn0 l dC dI s.heap.size t a 0 (-1) (zi_none a)) (va_cwS 3 hts (zg_S kw_1374 kw_1375 kw_70 kw_1376) rfl rfl rfl (by decide +kernel) ⟨Nat.le_of_ble_eq_true rfl, Nat.le_of_ble_eq_true rfl⟩) ⟨zA_blind, zA_pre hP hD hS hK hQ hA [] rfl rfl (by decide) [] rfl⟩ rfl rfl hl.1 rfl (lv_room (Nat.le_of_ble_eq_true rfl)) dX8_isAccount_13 ⟨zl_b rfl, zl_b rfl⟩) (fun r hr => ?_)
  subst hr
  exact W.zret (ty := .boolean) hx hb hr rfl (fun t ht hW => ⟨_, rfl, rfl, ht⟩) (fun q hq => absurd hq List.not_mem_nil) dX8_isAccount_16
set_option maxHeartbeats 4000000 in
set_option maxRecDepth 100000 in
/-- isEvent: there is none -/
theorem c_isEvent (l : Launch) (dC : Nat → ClassId) (dI : Nat → Nat → Nat) (sz t : Nat) (h0 ac : Nat) (cu : Value) (dd th a e9 : Int32) (ed : Value) : Met l yX8_isEvent ws_X8_isEvent ({ frames := 3, cells := 0, slots := 0, locals := 55 }) (zA dC dI [(h0, .inr (7, [.ref ac, cu, .int dd, .int th])), (ac, .inr (0, [.int 0, ed, .int 0]))] [] sz t [.ref h0, .int a, .int e9]) (vp_Si (fun r => r = 0)) 0 0 (fun _ => False) := by
  refine Met.ofW (cc := cX8_isEvent) (maxL := 3) (ret := (some .boolean)) (by decide) rfl ?_
  intro p e s m args below meth c s₁ B hml hv
  obtain ⟨rfl, hsz, hP, hK, hD0, hQ⟩ := hv
  have hx := B.exec
  have hb := B.bytes
  have hr := B.returns
  have hts : ∀ w ∈ zG, w.before _ s = true := fun w h => atoms_spec (ws := ws_X8_isEvent) B.pre w (List.mem_cons_of_mem _ h)
  have hown : s.vm.findClass RX8 = some m.cls := findClass_of_methodNamed B.named
  have hlocks := B.notSynchronized
  subst hsz
  have hD := hD0.self (sz := s.heap.size)
  generalize hAe : va_A [(h0, .inr (7, [.ref ac, cu, .int dd, .int th])), (ac, .inr (0, [.int 0, ed, .int 0]))] s.heap.size = A at hD hQ
  have hA : ∀ q : Nat, s.heap.size ≤ q → A q := fun q h => by rw [← hAe]; exact Or.inr h
  have hS : va_S A s.heap s.heap [] := va_S.rf
  have hP : va_P (dC, dI) zc [(h0, .inr (7, [.ref ac, cu, .int dd, .int th])), (ac, .inr (0, [.int 0, ed, .int 0]))] s.heap := hP
  have hl := lv_entry ([.ref h0, .int a, .int e9]) (n := 3) (Nat.le_of_ble_eq_true rfl)
  rw [lg_entry_eq]
  generalize (lg_sl ([.ref h0, .int a, .int e9]) ++ List.replicate (3 - (lg_sl ([.ref h0, .int a, .int e9])).length) Slot.unset).toArray = ls at hl ⊢
  have hl : lv_has ls 3 [(0, .ref h0), (1, .int a), (2, .int e9)] := hl
  refine lv_aload_n hx hb dX8_isEvent_0 rfl (lv_at hl 0 rfl) ?_
  refine lv_iload_n hx hb dX8_isEvent_1 rfl (lv_at hl 1 rfl) ?_
  refine vp_callSi (W.runV (As := [.int a]) (rest := []) ⟨hx, hb, hml, hown, hts⟩ (c_isAccount l dC dI s.heap.size t h0 ac cu dd th a ed) (cwV 1 hts (zg_V kw_1432 kw_1434 kw_41 kw_70 kw_1435) rfl rfl rfl (by decide +kernel) ⟨Nat.le_of_ble_eq_true rfl, Nat.le_of_ble_eq_true rfl⟩) ⟨zA_blind, va_recv hK hP (ci := 7) (q0 := 0) rfl rfl, zA_pre hP hD hS hK hQ hA [0, 1] rfl rfl (by decide) [] rfl⟩ rfl rfl hl.1 rfl (lv_room (Nat.le_of_ble_eq_true rfl)) dX8_isEvent_2 ⟨zl_b rfl, zl_b rfl⟩) (fun r hr => ?_)
  subst hr
  refine lv_if_eq (tgt := 43) hx hb dX8_isEvent_5 (by decide) (fun c_1 => ?_) (fun c_1 => absurd c_1 (by decide))
  refine lv_iconst (v := 0) hx hb dX8_isEvent_43 (by decide) ?_
  exact W.zret (ty := .boolean) hx hb hr rfl (fun t ht hW => ⟨_, rfl, rfl, ht⟩) (fun q hq => absurd hq List.not_mem_nil) dX8_isEvent_44
set_option maxHeartbeats 4000000 in
set_option maxRecDepth 100000 in
/-- thrown() -/
theorem c_thrown (l : Launch) (dC : Nat → ClassId) (dI : Nat → Nat → Nat) (sz t : Nat) (h0 : Nat) (ac cu : Value) (dd th : Int32) : Met l yX8_thrown ws_X8_thrown ({ frames := 1, cells := 0, slots := 0, locals := 12 }) (zA dC dI [(h0, .inr (7, [ac, cu, .int dd, .int th]))] [] sz t [.ref h0]) (vp_Si (fun r => r = th)) 0 0 (fun _ => False) := by
  refine Met.ofW (cc := cX8_thrown) (maxL := 1) (ret := (some .int)) (by decide) rfl ?_
  intro p e s m args below meth c s₁ B hml hv
  obtain ⟨rfl, hsz, hP, hK, hD0, hQ⟩ := hv
  have hx := B.exec
  have hb := B.bytes
  have hr := B.returns
  have hts : ∀ w ∈ zG, w.before _ s = true := fun w h => atoms_spec (ws := ws_X8_thrown) B.pre w (List.mem_cons_of_mem _ h)
  have hown : s.vm.findClass RX8 = some m.cls := findClass_of_methodNamed B.named
  have hlocks := B.notSynchronized
  subst hsz
  have hD := hD0.self (sz := s.heap.size)
  generalize hAe : va_A [(h0, .inr (7, [ac, cu, .int dd, .int th]))] s.heap.size = A at hD hQ
  have hA : ∀ q : Nat, s.heap.size ≤ q → A q := fun q h => by rw [← hAe]; exact Or.inr h
  have hS : va_S A s.heap s.heap [] := va_S.rf
  have hP : va_P (dC, dI) zc [(h0, .inr (7, [ac, cu, .int dd, .int th]))] s.heap := hP
  have hl := lv_entry ([.ref h0]) (n := 1) (Nat.le_of_ble_eq_true rfl)
  rw [lg_entry_eq]
  generalize (lg_sl ([.ref h0]) ++ List.replicate (1 - (lg_sl ([.ref h0])).length) Slot.unset).toArray = ls at hl ⊢
  have hl : lv_has ls 1 [(0, .ref h0)] := hl
  refine lv_aload_n hx hb dX8_thrown_0 rfl (lv_at hl 0 rfl) ?_
  refine va_get (D := (dC, dI)) (ci := 7) (v := .int th) (C := RX8) (T := TX8) (N := 4) hx hb hts iX8 hown hK hP 0 rfl rfl 3 (by decide) (hts _ kw_1355) (fun _ h9 => h9) rfl dX8_thrown_1 ?_
  exact W.iret hx hb hr (fun t ht hW => ⟨_, rfl, rfl, ht⟩) (fun q hq => absurd hq List.not_mem_nil) dX8_thrown_4
set_option maxHeartbeats 4000000 in
set_option maxRecDepth 100000 in
/-- no(false, ..) -/
theorem c_no0 (l : Launch) (dC : Nat → ClassId) (dI : Nat → Nat → Nat) (sz t : Nat) (h0 : Nat) (ac cu : Value) (dd th pl : Int32) : Met l yX8_no ws_X8_no ({ frames := 1, cells := 0, slots := 0, locals := 12 }) (zA dC dI [(h0, .inr (7, [ac, cu, .int dd, .int th]))] [] sz t [.ref h0, .int 0, .int pl]) (va_Qi (fun r (_ : Unit) => r = 1) (fun _ t9 => zB dC dI (va_A [(h0, .inr (7, [ac, cu, .int dd, .int th]))] sz) [(h0, .inr (7, [ac, cu, .int dd, .int pl]))] [] t9) (va_A [(h0, .inr (7, [ac, cu, .int dd, .int th]))] sz)) 0 0 (va_A [(h0, .inr (7, [ac, cu, .int dd, .int th]))] sz) := by
  refine Met.ofW (cc := cX8_no) (maxL := 3) (ret := (some .boolean)) (by decide) rfl ?_
  intro p e s m args below meth c s₁ B hml hv
  obtain ⟨rfl, hsz, hP, hK, hD0, hQ⟩ := hv
  have hx := B.exec
  have hb := B.bytes
  have hr := B.returns
  have hts : ∀ w ∈ zG, w.before _ s = true := fun w h => atoms_spec (ws := ws_X8_no) B.pre w (List.mem_cons_of_mem _ h)
  have hown : s.vm.findClass RX8 = some m.cls := findClass_of_methodNamed B.named
  have hlocks := B.notSynchronized
  subst hsz
  have hD := hD0.self (sz := s.heap.size)
  generalize hAe : va_A [(h0, .inr (7, [ac, cu, .int dd, .int th]))] s.heap.size = A at hD hQ ⊢
  have hA : ∀ q : Nat, s.heap.size ≤ q → A q := fun q h => by rw [← hAe]; exact Or.inr h
  have hS : va_S A s.heap s.heap [] := va_S.rf
  have hP : va_P (dC, dI) zc [(h0, .inr (7, [ac, cu, .int dd, .int th]))] s.heap := hP
  have hl := lv_entry ([.ref h0, .int 0, .int pl]) (n := 3) (Nat.le_of_ble_eq_true rfl)
  rw [lg_entry_eq]
  generalize (lg_sl ([.ref h0, .int 0, .int pl]) ++ List.replicate (3 - (lg_sl ([.ref h0, .int 0, .int pl])).length) Slot.unset).toArray = ls at hl ⊢
  have hl : lv_has ls 3 [(0, .ref h0), (1, .int 0), (2, .int pl)] := hl
  refine lv_aload_n hx hb dX8_no_0 rfl (lv_at hl 0 rfl) ?_
  refine lv_iload_n hx hb dX8_no_1 rfl (lv_at hl 1 rfl) ?_
  refine lv_if_eq (tgt := 9) hx hb dX8_no_2 (by decide) (fun c_1 => ?_) (fun c_1 => absurd c_1 (by decide))
  refine lv_iload_n hx hb dX8_no_9 rfl (lv_at hl 2 rfl) ?_
  refine va_put (D := (dC, dI)) (ci := 7) (v := .int pl) (ty := .int) (C := RX8) (T := TX8) (N := 4) hx hb hts iX8 tyX8 tyX8_ok nmX8 hown hK hP hD hS 0 rfl rfl 3 (by decide) (hts _ kw_1355) (fun _ h9 => h9) rfl (by decide +kernel) rfl rfl (Nat.le_of_ble_eq_true rfl) dX8_no_10 (fun H locs hP hD hS => ?_)
  have hP : va_P (dC, dI) zc [(h0, .inr (7, [ac, cu, .int dd, .int pl]))] H := hP
  have hD : va_D A [(h0, .inr (7, [ac, cu, .int dd, .int pl]))] := hD
  refine lv_iload_n hx hb dX8_no_13 rfl (lv_at hl 1 rfl) ?_
  refine lv_if_ne (tgt := 21) hx hb dX8_no_14 (by decide) (fun c_2 => absurd c_2 (by decide)) (fun c_2 => ?_)
  refine lv_iconst (v := 1) hx hb dX8_no_17 (by decide) ?_
  refine lv_goto (tgt := 22) hx hb dX8_no_18 (by decide) ?_
  have hP9 := hP.sub (ws' := [(h0, .inr (7, [ac, cu, .int dd, .int pl]))]) [0] rfl
  have hD9 := hD.sub (ws' := [(h0, .inr (7, [ac, cu, .int dd, .int pl]))]) [0] (by decide) rfl
  have hK9 := hK.sub (tys' := []) [] rfl
  exact W.zret (ty := .boolean) hx hb hr rfl (fun t ht hW => ⟨⟨_, (), rfl, rfl, by rw [ht]; exact hP9, va_K.moved hW.alike hK9, hD9⟩, hS.F ht⟩) hS.2.2 dX8_no_22
set_option maxHeartbeats 4000000 in
set_option maxRecDepth 100000 in
/-- no(true, ..) -/
theorem c_no1 (l : Launch) (dC : Nat → ClassId) (dI : Nat → Nat → Nat) (sz t : Nat) (h0 : Nat) (ac cu : Value) (dd th pl : Int32) : Met l yX8_no ws_X8_no ({ frames := 1, cells := 0, slots := 0, locals := 12 }) (zA dC dI [(h0, .inr (7, [ac, cu, .int dd, .int th]))] [] sz t [.ref h0, .int 1, .int pl]) (va_Qi (fun r (_ : Unit) => r = 0) (fun _ t9 => zB dC dI (va_A [(h0, .inr (7, [ac, cu, .int dd, .int th]))] sz) [(h0, .inr (7, [ac, cu, .int dd, .int 0]))] [] t9) (va_A [(h0, .inr (7, [ac, cu, .int dd, .int th]))] sz)) 0 0 (va_A [(h0, .inr (7, [ac, cu, .int dd, .int th]))] sz) := by
  refine Met.ofW (cc := cX8_no) (maxL := 3) (ret := (some .boolean)) (by decide) rfl ?_
  intro p e s m args below meth c s₁ B hml hv
  obtain ⟨rfl, hsz, hP, hK, hD0, hQ⟩ := hv
  have hx := B.exec
  have hb := B.bytes
  have hr := B.returns
  have hts : ∀ w ∈ zG, w.before _ s = true := fun w h => atoms_spec (ws := ws_X8_no) B.pre w (List.mem_cons_of_mem _ h)
  have hown : s.vm.findClass RX8 = some m.cls := findClass_of_methodNamed B.named
  have hlocks := B.notSynchronized
  subst hsz
  have hD := hD0.self (sz := s.heap.size)
  generalize hAe : va_A [(h0, .inr (7, [ac, cu, .int dd, .int th]))] s.heap.size = A at hD hQ ⊢
  have hA : ∀ q : Nat, s.heap.size ≤ q → A q := fun q h => by rw [← hAe]; exact Or.inr h
  have hS : va_S A s.heap s.heap [] := va_S.rf
  have hP : va_P (dC, dI) zc [(h0, .inr (7, [ac, cu, .int dd, .int th]))] s.heap := hP
  have hl := lv_entry ([.ref h0, .int 1, .int pl]) (n := 3) (Nat.le_of_ble_eq_true rfl)
  rw [lg_entry_eq]
  generalize (lg_sl ([.ref h0, .int 1, .int pl]) ++ List.replicate (3 - (lg_sl ([.ref h0, .int 1, .int pl])).length) Slot.unset).toArray = ls at hl ⊢
  have hl : lv_has ls 3 [(0, .ref h0), (1, .int 1), (2, .int pl)] := hl
  refine lv_aload_n hx hb dX8_no_0 rfl (lv_at hl 0 rfl) ?_
  refine lv_iload_n hx hb dX8_no_1 rfl (lv_at hl 1 rfl) ?_
  refine lv_if_eq (tgt := 9) hx hb dX8_no_2 (by decide) (fun c_1 => absurd c_1 (by decide)) (fun c_1 => ?_)
  refine lv_iconst (v := 0) hx hb dX8_no_5 (by decide) ?_
  refine lv_goto (tgt := 10) hx hb dX8_no_6 (by decide) ?_
  refine va_put (D := (dC, dI)) (ci := 7) (v := .int 0) (ty := .int) (C := RX8) (T := TX8) (N := 4) hx hb hts iX8 tyX8 tyX8_ok nmX8 hown hK hP hD hS 0 rfl rfl 3 (by decide) (hts _ kw_1355) (fun _ h9 => h9) rfl (by decide +kernel) rfl rfl (Nat.le_of_ble_eq_true rfl) dX8_no_10 (fun H locs hP hD hS => ?_)
  have hP : va_P (dC, dI) zc [(h0, .inr (7, [ac, cu, .int dd, .int 0]))] H := hP
  have hD : va_D A [(h0, .inr (7, [ac, cu, .int dd, .int 0]))] := hD
  refine lv_iload_n hx hb dX8_no_13 rfl (lv_at hl 1 rfl) ?_
  refine lv_if_ne (tgt := 21) hx hb dX8_no_14 (by decide) (fun c_2 => ?_) (fun c_2 => absurd c_2 (by decide))
  refine lv_iconst (v := 0) hx hb dX8_no_21 (by decide) ?_
  have hP9 := hP.sub (ws' := [(h0, .inr (7, [ac, cu, .int dd, .int 0]))]) [0] rfl
  have hD9 := hD.sub (ws' := [(h0, .inr (7, [ac, cu, .int dd, .int 0]))]) [0] (by decide) rfl
  have hK9 := hK.sub (tys' := []) [] rfl
  exact W.zret (ty := .boolean) hx hb hr rfl (fun t ht hW => ⟨⟨_, (), rfl, rfl, by rw [ht]; exact hP9, va_K.moved hW.alike hK9, hD9⟩, hS.F ht⟩) hS.2.2 dX8_no_22
end
section
set_option maxHeartbeats 4000000 in
set_option maxRecDepth 100000 in
/-- setLimit: no such account -/
theorem c_setLimit (l : Launch) (hst : l.stackTraces = false) (dC : Nat → ClassId) (dI : Nat → Nat → Nat) (sz t : Nat) (h0 ac : Nat) (w0 b0 : Value) (dd : Int32) (ed : Value) (a1 a2 : Int32) : vx_Met l yX4_setLimit ws_X4_setLimit ({ frames := 7, cells := 1, slots := 6, locals := 120 }) (zA dC dI [(h0, .inr (5, [.ref ac, w0, b0, .int dd])), (ac, .inr (0, [.int 0, ed, .int 0]))] [] sz t [.ref h0, .int a1, .int a2]) (va_Qi (fun _ (_ : Unit) => False) (fun _ _ => True) (fun _ => False)) (vx_X (fun _ : Unit => True) (fun E _ _ => E = "java/lang/IndexOutOfBoundsException") (fun q => sz ≤ q)) 1 6 (fun q => sz ≤ q) := by
  refine vx_ofW (cc := cX4_setLimit) (maxL := 5) (ret := (some .int)) (by decide) rfl ?_
  intro p e s m args below meth c s₁ B hml htab hv
  obtain ⟨rfl, hsz, hP, hK, hD0, hQ⟩ := hv
  have hx := B.exec
  have hb := B.bytes
  have hr := B.returns
  have hts : ∀ w ∈ zG, w.before _ s = true := fun w h => atoms_spec (ws := ws_X4_setLimit) B.pre w (List.mem_cons_of_mem _ h)
  have hown : s.vm.findClass RX4 = some m.cls := findClass_of_methodNamed B.named
  have hlocks := B.notSynchronized
  subst hsz
  have hD := hD0.self (sz := s.heap.size)
  generalize hAe : va_A [(h0, .inr (5, [.ref ac, w0, b0, .int dd])), (ac, .inr (0, [.int 0, ed, .int 0]))] s.heap.size = A at hD hQ
  have hA : ∀ q : Nat, s.heap.size ≤ q → A q := fun q h => by rw [← hAe]; exact Or.inr h
  have hS : va_S A s.heap s.heap [] := va_S.rf
  have hSn : va_S (fun q => s.heap.size ≤ q) s.heap s.heap [] := va_S.rf
  have hP : va_P (dC, dI) zc [(h0, .inr (5, [.ref ac, w0, b0, .int dd])), (ac, .inr (0, [.int 0, ed, .int 0]))] s.heap := hP
  have hl := lv_entry ([.ref h0, .int a1, .int a2]) (n := 5) (Nat.le_of_ble_eq_true rfl)
  rw [lg_entry_eq]
  generalize (lg_sl ([.ref h0, .int a1, .int a2]) ++ List.replicate (5 - (lg_sl ([.ref h0, .int a1, .int a2])).length) Slot.unset).toArray = ls at hl ⊢
  have hl : lv_has ls 5 [(0, .ref h0), (1, .int a1), (2, .int a2)] := hl
  refine lv_aload_n hx hb dX4_setLimit_0 rfl (lv_at hl 0 rfl) ?_
  refine lv_iload_n hx hb dX4_setLimit_1 rfl (lv_at hl 1 rfl) ?_
  refine vx_callq (vx_runV (As := [.int a1]) (rest := []) ⟨hx, hb, hml, hown, hts⟩ (c_accountAt l hst dC dI s.heap.size t h0 ac w0 b0 dd a1 ed) (cwV 1 hts (zg_V kw_668 kw_670 kw_30 kw_64 kw_671) rfl rfl rfl (by decide +kernel) ⟨Nat.le_of_ble_eq_true rfl, Nat.le_of_ble_eq_true rfl⟩) ⟨zA_blind, va_recv hK hP (ci := 5) (q0 := 0) rfl rfl, zA_pre hP hD hS hK hQ hA [0, 1] rfl rfl (by decide) [] rfl⟩ rfl rfl hl.1 rfl (lv_room (Nat.le_of_ble_eq_true rfl)) dX4_setLimit_2 ⟨zl_b rfl, zl_b rfl⟩) hSn (fun q _ h => h.elim) (fun q h => Nat.le_trans (Nat.le_refl _) h) (fun q _ h => Nat.le_trans (Nat.le_refl _) h) (fun E ce q9 u t9 H1 locs1 ht hvm hp9 hE hz1 hk1 hS1 hc1 hv1 hcl1 => ?_) (fun r u t9 H1 locs1 ht hvm hw hB hz1 hk1 hS1 => hw.elim)
  have hE : E = "java/lang/IndexOutOfBoundsException" := hE
  subst hE
  refine vx_widen (k := 1) (n := 6) (zl_b rfl) (zl_b rfl) ?_
  exact vx_out (fun x hx => (htab x hx).elim) hlocks hc1 hv1 hcl1 (fun t ht hW => ⟨(), trivial, rfl, zS_F hS1 ht⟩) hS1.2.2 (zl_b rfl) (zl_b rfl)
set_option maxHeartbeats 4000000 in
set_option maxRecDepth 100000 in
/-- block: no such account -/
theorem c_block (l : Launch) (hst : l.stackTraces = false) (dC : Nat → ClassId) (dI : Nat → Nat → Nat) (sz t : Nat) (h0 ac : Nat) (w0 b0 : Value) (dd : Int32) (ed : Value) (a1 a2 : Int32) : vx_Met l yX4_block ws_X4_block ({ frames := 7, cells := 1, slots := 6, locals := 120 }) (zA dC dI [(h0, .inr (5, [.ref ac, w0, b0, .int dd])), (ac, .inr (0, [.int 0, ed, .int 0]))] [] sz t [.ref h0, .int a1, .int a2]) (va_Qi (fun _ (_ : Unit) => False) (fun _ _ => True) (fun _ => False)) (vx_X (fun _ : Unit => True) (fun E _ _ => E = "java/lang/IndexOutOfBoundsException") (fun q => sz ≤ q)) 1 6 (fun q => sz ≤ q) := by
  refine vx_ofW (cc := cX4_block) (maxL := 5) (ret := (some .boolean)) (by decide) rfl ?_
  intro p e s m args below meth c s₁ B hml htab hv
  obtain ⟨rfl, hsz, hP, hK, hD0, hQ⟩ := hv
  have hx := B.exec
  have hb := B.bytes
  have hr := B.returns
  have hts : ∀ w ∈ zG, w.before _ s = true := fun w h => atoms_spec (ws := ws_X4_block) B.pre w (List.mem_cons_of_mem _ h)
  have hown : s.vm.findClass RX4 = some m.cls := findClass_of_methodNamed B.named
  have hlocks := B.notSynchronized
  subst hsz
  have hD := hD0.self (sz := s.heap.size)
  generalize hAe : va_A [(h0, .inr (5, [.ref ac, w0, b0, .int dd])), (ac, .inr (0, [.int 0, ed, .int 0]))] s.heap.size = A at hD hQ
  have hA : ∀ q : Nat, s.heap.size ≤ q → A q := fun q h => by rw [← hAe]; exact Or.inr h
  have hS : va_S A s.heap s.heap [] := va_S.rf
  have hSn : va_S (fun q => s.heap.size ≤ q) s.heap s.heap [] := va_S.rf
  have hP : va_P (dC, dI) zc [(h0, .inr (5, [.ref ac, w0, b0, .int dd])), (ac, .inr (0, [.int 0, ed, .int 0]))] s.heap := hP
  have hl := lv_entry ([.ref h0, .int a1, .int a2]) (n := 5) (Nat.le_of_ble_eq_true rfl)
  rw [lg_entry_eq]
  generalize (lg_sl ([.ref h0, .int a1, .int a2]) ++ List.replicate (5 - (lg_sl ([.ref h0, .int a1, .int a2])).length) Slot.unset).toArray = ls at hl ⊢
  have hl : lv_has ls 5 [(0, .ref h0), (1, .int a1), (2, .int a2)] := hl
  refine lv_aload_n hx hb dX4_block_0 rfl (lv_at hl 0 rfl) ?_
  refine lv_iload_n hx hb dX4_block_1 rfl (lv_at hl 1 rfl) ?_
  refine vx_callq (vx_runV (As := [.int a1]) (rest := []) ⟨hx, hb, hml, hown, hts⟩ (c_accountAt l hst dC dI s.heap.size t h0 ac w0 b0 dd a1 ed) (cwV 1 hts (zg_V kw_668 kw_670 kw_30 kw_64 kw_671) rfl rfl rfl (by decide +kernel) ⟨Nat.le_of_ble_eq_true rfl, Nat.le_of_ble_eq_true rfl⟩) ⟨zA_blind, va_recv hK hP (ci := 5) (q0 := 0) rfl rfl, zA_pre hP hD hS hK hQ hA [0, 1] rfl rfl (by decide) [] rfl⟩ rfl rfl hl.1 rfl (lv_room (Nat.le_of_ble_eq_true rfl)) dX4_block_2 ⟨zl_b rfl, zl_b rfl⟩) hSn (fun q _ h => h.elim) (fun q h => Nat.le_trans (Nat.le_refl _) h) (fun q _ h => Nat.le_trans (Nat.le_refl _) h) (fun E ce q9 u t9 H1 locs1 ht hvm hp9 hE hz1 hk1 hS1 hc1 hv1 hcl1 => ?_) (fun r u t9 H1 locs1 ht hvm hw hB hz1 hk1 hS1 => hw.elim)
  have hE : E = "java/lang/IndexOutOfBoundsException" := hE
  subst hE
  refine vx_widen (k := 1) (n := 6) (zl_b rfl) (zl_b rfl) ?_
  exact vx_out (fun x hx => (htab x hx).elim) hlocks hc1 hv1 hcl1 (fun t ht hW => ⟨(), trivial, rfl, zS_F hS1 ht⟩) hS1.2.2 (zl_b rfl) (zl_b rfl)
set_option maxHeartbeats 4000000 in
set_option maxRecDepth 100000 in
/-- setRate: no such account -/
theorem c_setRate (l : Launch) (hst : l.stackTraces = false) (dC : Nat → ClassId) (dI : Nat → Nat → Nat) (sz t : Nat) (h0 ac : Nat) (w0 b0 : Value) (dd : Int32) (ed : Value) (a1 a2 a3 : Int32) : vx_Met l yX4_setRate ws_X4_setRate ({ frames := 7, cells := 1, slots := 6, locals := 120 }) (zA dC dI [(h0, .inr (5, [.ref ac, w0, b0, .int dd])), (ac, .inr (0, [.int 0, ed, .int 0]))] [] sz t [.ref h0, .int a1, .int a2, .int a3]) (va_Qi (fun _ (_ : Unit) => False) (fun _ _ => True) (fun _ => False)) (vx_X (fun _ : Unit => True) (fun E _ _ => E = "java/lang/IndexOutOfBoundsException") (fun q => sz ≤ q)) 1 6 (fun q => sz ≤ q) := by
  refine vx_ofW (cc := cX4_setRate) (maxL := 7) (ret := (some .int)) (by decide) rfl ?_
  intro p e s m args below meth c s₁ B hml htab hv
  obtain ⟨rfl, hsz, hP, hK, hD0, hQ⟩ := hv
  have hx := B.exec
  have hb := B.bytes
  have hr := B.returns
  have hts : ∀ w ∈ zG, w.before _ s = true := fun w h => atoms_spec (ws := ws_X4_setRate) B.pre w (List.mem_cons_of_mem _ h)
  have hown : s.vm.findClass RX4 = some m.cls := findClass_of_methodNamed B.named
  have hlocks := B.notSynchronized
  subst hsz
  have hD := hD0.self (sz := s.heap.size)
  generalize hAe : va_A [(h0, .inr (5, [.ref ac, w0, b0, .int dd])), (ac, .inr (0, [.int 0, ed, .int 0]))] s.heap.size = A at hD hQ
  have hA : ∀ q : Nat, s.heap.size ≤ q → A q := fun q h => by rw [← hAe]; exact Or.inr h
  have hS : va_S A s.heap s.heap [] := va_S.rf
  have hSn : va_S (fun q => s.heap.size ≤ q) s.heap s.heap [] := va_S.rf
  have hP : va_P (dC, dI) zc [(h0, .inr (5, [.ref ac, w0, b0, .int dd])), (ac, .inr (0, [.int 0, ed, .int 0]))] s.heap := hP
  have hl := lv_entry ([.ref h0, .int a1, .int a2, .int a3]) (n := 7) (Nat.le_of_ble_eq_true rfl)
  rw [lg_entry_eq]
  generalize (lg_sl ([.ref h0, .int a1, .int a2, .int a3]) ++ List.replicate (7 - (lg_sl ([.ref h0, .int a1, .int a2, .int a3])).length) Slot.unset).toArray = ls at hl ⊢
  have hl : lv_has ls 7 [(0, .ref h0), (1, .int a1), (2, .int a2), (3, .int a3)] := hl
  refine lv_aload_n hx hb dX4_setRate_0 rfl (lv_at hl 0 rfl) ?_
  refine lv_iload_n hx hb dX4_setRate_1 rfl (lv_at hl 1 rfl) ?_
  refine vx_callq (vx_runV (As := [.int a1]) (rest := []) ⟨hx, hb, hml, hown, hts⟩ (c_accountAt l hst dC dI s.heap.size t h0 ac w0 b0 dd a1 ed) (cwV 1 hts (zg_V kw_668 kw_670 kw_30 kw_64 kw_671) rfl rfl rfl (by decide +kernel) ⟨Nat.le_of_ble_eq_true rfl, Nat.le_of_ble_eq_true rfl⟩) ⟨zA_blind, va_recv hK hP (ci := 5) (q0 := 0) rfl rfl, zA_pre hP hD hS hK hQ hA [0, 1] rfl rfl (by decide) [] rfl⟩ rfl rfl hl.1 rfl (lv_room (Nat.le_of_ble_eq_true rfl)) dX4_setRate_2 ⟨zl_b rfl, zl_b rfl⟩) hSn (fun q _ h => h.elim) (fun q h => Nat.le_trans (Nat.le_refl _) h) (fun q _ h => Nat.le_trans (Nat.le_refl _) h) (fun E ce q9 u t9 H1 locs1 ht hvm hp9 hE hz1 hk1 hS1 hc1 hv1 hcl1 => ?_) (fun r u t9 H1 locs1 ht hvm hw hB hz1 hk1 hS1 => hw.elim)
  have hE : E = "java/lang/IndexOutOfBoundsException" := hE
  subst hE
  refine vx_widen (k := 1) (n := 6) (zl_b rfl) (zl_b rfl) ?_
  exact vx_out (fun x hx => (htab x hx).elim) hlocks hc1 hv1 hcl1 (fun t ht hW => ⟨(), trivial, rfl, zS_F hS1 ht⟩) hS1.2.2 (zl_b rfl) (zl_b rfl)
set_option maxHeartbeats 4000000 in
set_option maxRecDepth 100000 in
/-- promote: no such account -/
theorem c_promote (l : Launch) (hst : l.stackTraces = false) (dC : Nat → ClassId) (dI : Nat → Nat → Nat) (sz t : Nat) (h0 ac : Nat) (w0 b0 : Value) (dd : Int32) (ed : Value) (a1 a2 a3 : Int32) : vx_Met l yX4_promote ws_X4_promote ({ frames := 7, cells := 1, slots := 6, locals := 120 }) (zA dC dI [(h0, .inr (5, [.ref ac, w0, b0, .int dd])), (ac, .inr (0, [.int 0, ed, .int 0]))] [] sz t [.ref h0, .int a1, .int a2, .int a3]) (va_Qi (fun _ (_ : Unit) => False) (fun _ _ => True) (fun _ => False)) (vx_X (fun _ : Unit => True) (fun E _ _ => E = "java/lang/IndexOutOfBoundsException") (fun q => sz ≤ q)) 1 6 (fun q => sz ≤ q) := by
  refine vx_ofW (cc := cX4_promote) (maxL := 6) (ret := (some .int)) (by decide) rfl ?_
  intro p e s m args below meth c s₁ B hml htab hv
  obtain ⟨rfl, hsz, hP, hK, hD0, hQ⟩ := hv
  have hx := B.exec
  have hb := B.bytes
  have hr := B.returns
  have hts : ∀ w ∈ zG, w.before _ s = true := fun w h => atoms_spec (ws := ws_X4_promote) B.pre w (List.mem_cons_of_mem _ h)
  have hown : s.vm.findClass RX4 = some m.cls := findClass_of_methodNamed B.named
  have hlocks := B.notSynchronized
  subst hsz
  have hD := hD0.self (sz := s.heap.size)
  generalize hAe : va_A [(h0, .inr (5, [.ref ac, w0, b0, .int dd])), (ac, .inr (0, [.int 0, ed, .int 0]))] s.heap.size = A at hD hQ
  have hA : ∀ q : Nat, s.heap.size ≤ q → A q := fun q h => by rw [← hAe]; exact Or.inr h
  have hS : va_S A s.heap s.heap [] := va_S.rf
  have hSn : va_S (fun q => s.heap.size ≤ q) s.heap s.heap [] := va_S.rf
  have hP : va_P (dC, dI) zc [(h0, .inr (5, [.ref ac, w0, b0, .int dd])), (ac, .inr (0, [.int 0, ed, .int 0]))] s.heap := hP
  have hl := lv_entry ([.ref h0, .int a1, .int a2, .int a3]) (n := 6) (Nat.le_of_ble_eq_true rfl)
  rw [lg_entry_eq]
  generalize (lg_sl ([.ref h0, .int a1, .int a2, .int a3]) ++ List.replicate (6 - (lg_sl ([.ref h0, .int a1, .int a2, .int a3])).length) Slot.unset).toArray = ls at hl ⊢
  have hl : lv_has ls 6 [(0, .ref h0), (1, .int a1), (2, .int a2), (3, .int a3)] := hl
  refine lv_aload_n hx hb dX4_promote_0 rfl (lv_at hl 0 rfl) ?_
  refine lv_iload_n hx hb dX4_promote_1 rfl (lv_at hl 1 rfl) ?_
  refine vx_callq (vx_runV (As := [.int a1]) (rest := []) ⟨hx, hb, hml, hown, hts⟩ (c_accountAt l hst dC dI s.heap.size t h0 ac w0 b0 dd a1 ed) (cwV 1 hts (zg_V kw_668 kw_670 kw_30 kw_64 kw_671) rfl rfl rfl (by decide +kernel) ⟨Nat.le_of_ble_eq_true rfl, Nat.le_of_ble_eq_true rfl⟩) ⟨zA_blind, va_recv hK hP (ci := 5) (q0 := 0) rfl rfl, zA_pre hP hD hS hK hQ hA [0, 1] rfl rfl (by decide) [] rfl⟩ rfl rfl hl.1 rfl (lv_room (Nat.le_of_ble_eq_true rfl)) dX4_promote_2 ⟨zl_b rfl, zl_b rfl⟩) hSn (fun q _ h => h.elim) (fun q h => Nat.le_trans (Nat.le_refl _) h) (fun q _ h => Nat.le_trans (Nat.le_refl _) h) (fun E ce q9 u t9 H1 locs1 ht hvm hp9 hE hz1 hk1 hS1 hc1 hv1 hcl1 => ?_) (fun r u t9 H1 locs1 ht hvm hw hB hz1 hk1 hS1 => hw.elim)
  have hE : E = "java/lang/IndexOutOfBoundsException" := hE
  subst hE
  refine vx_widen (k := 1) (n := 6) (zl_b rfl) (zl_b rfl) ?_
  exact vx_out (fun x hx => (htab x hx).elim) hlocks hc1 hv1 hcl1 (fun t ht hW => ⟨(), trivial, rfl, zS_F hS1 ht⟩) hS1.2.2 (zl_b rfl) (zl_b rfl)
set_option maxHeartbeats 4000000 in
set_option maxRecDepth 100000 in
/-- buy: no such account -/
theorem c_buy (l : Launch) (hst : l.stackTraces = false) (dC : Nat → ClassId) (dI : Nat → Nat → Nat) (sz t : Nat) (h0 ac : Nat) (w0 b0 : Value) (dd : Int32) (ed : Value) (a1 a2 a3 : Int32) : vx_Met l yX4_buy ws_X4_buy ({ frames := 7, cells := 1, slots := 6, locals := 120 }) (zA dC dI [(h0, .inr (5, [.ref ac, w0, b0, .int dd])), (ac, .inr (0, [.int 0, ed, .int 0]))] [] sz t [.ref h0, .int a1, .int a2, .int a3]) (va_Qi (fun _ (_ : Unit) => False) (fun _ _ => True) (fun _ => False)) (vx_X (fun _ : Unit => True) (fun E _ _ => E = "java/lang/IndexOutOfBoundsException") (fun q => sz ≤ q)) 1 6 (fun q => sz ≤ q) := by
  refine vx_ofW (cc := cX4_buy) (maxL := 6) (ret := (some .int)) (by decide) rfl ?_
  intro p e s m args below meth c s₁ B hml htab hv
  obtain ⟨rfl, hsz, hP, hK, hD0, hQ⟩ := hv
  have hx := B.exec
  have hb := B.bytes
  have hr := B.returns
  have hts : ∀ w ∈ zG, w.before _ s = true := fun w h => atoms_spec (ws := ws_X4_buy) B.pre w (List.mem_cons_of_mem _ h)
  have hown : s.vm.findClass RX4 = some m.cls := findClass_of_methodNamed B.named
  have hlocks := B.notSynchronized
  subst hsz
  have hD := hD0.self (sz := s.heap.size)
  generalize hAe : va_A [(h0, .inr (5, [.ref ac, w0, b0, .int dd])), (ac, .inr (0, [.int 0, ed, .int 0]))] s.heap.size = A at hD hQ
  have hA : ∀ q : Nat, s.heap.size ≤ q → A q := fun q h => by rw [← hAe]; exact Or.inr h
  have hS : va_S A s.heap s.heap [] := va_S.rf
  have hSn : va_S (fun q => s.heap.size ≤ q) s.heap s.heap [] := va_S.rf
  have hP : va_P (dC, dI) zc [(h0, .inr (5, [.ref ac, w0, b0, .int dd])), (ac, .inr (0, [.int 0, ed, .int 0]))] s.heap := hP
  have hl := lv_entry ([.ref h0, .int a1, .int a2, .int a3]) (n := 6) (Nat.le_of_ble_eq_true rfl)
  rw [lg_entry_eq]
  generalize (lg_sl ([.ref h0, .int a1, .int a2, .int a3]) ++ List.replicate (6 - (lg_sl ([.ref h0, .int a1, .int a2, .int a3])).length) Slot.unset).toArray = ls at hl ⊢
  have hl : lv_has ls 6 [(0, .ref h0), (1, .int a1), (2, .int a2), (3, .int a3)] := hl
  refine lv_aload_n hx hb dX4_buy_0 rfl (lv_at hl 0 rfl) ?_
  refine lv_iload_n hx hb dX4_buy_1 rfl (lv_at hl 1 rfl) ?_
  refine vx_callq (vx_runV (As := [.int a1]) (rest := []) ⟨hx, hb, hml, hown, hts⟩ (c_accountAt l hst dC dI s.heap.size t h0 ac w0 b0 dd a1 ed) (cwV 1 hts (zg_V kw_668 kw_670 kw_30 kw_64 kw_671) rfl rfl rfl (by decide +kernel) ⟨Nat.le_of_ble_eq_true rfl, Nat.le_of_ble_eq_true rfl⟩) ⟨zA_blind, va_recv hK hP (ci := 5) (q0 := 0) rfl rfl, zA_pre hP hD hS hK hQ hA [0, 1] rfl rfl (by decide) [] rfl⟩ rfl rfl hl.1 rfl (lv_room (Nat.le_of_ble_eq_true rfl)) dX4_buy_2 ⟨zl_b rfl, zl_b rfl⟩) hSn (fun q _ h => h.elim) (fun q h => Nat.le_trans (Nat.le_refl _) h) (fun q _ h => Nat.le_trans (Nat.le_refl _) h) (fun E ce q9 u t9 H1 locs1 ht hvm hp9 hE hz1 hk1 hS1 hc1 hv1 hcl1 => ?_) (fun r u t9 H1 locs1 ht hvm hw hB hz1 hk1 hS1 => hw.elim)
  have hE : E = "java/lang/IndexOutOfBoundsException" := hE
  subst hE
  refine vx_widen (k := 1) (n := 6) (zl_b rfl) (zl_b rfl) ?_
  exact vx_out (fun x hx => (htab x hx).elim) hlocks hc1 hv1 hcl1 (fun t ht hW => ⟨(), trivial, rfl, zS_F hS1 ht⟩) hS1.2.2 (zl_b rfl) (zl_b rfl)
set_option maxHeartbeats 4000000 in
set_option maxRecDepth 100000 in
/-- buyOn: no such account -/
theorem c_buyOn (l : Launch) (hst : l.stackTraces = false) (dC : Nat → ClassId) (dI : Nat → Nat → Nat) (sz t : Nat) (h0 ac : Nat) (w0 b0 : Value) (dd : Int32) (ed : Value) (a1 a2 a3 a4 : Int32) : vx_Met l yX4_buyOn ws_X4_buyOn ({ frames := 7, cells := 1, slots := 6, locals := 120 }) (zA dC dI [(h0, .inr (5, [.ref ac, w0, b0, .int dd])), (ac, .inr (0, [.int 0, ed, .int 0]))] [] sz t [.ref h0, .int a1, .int a2, .int a3, .int a4]) (va_Qi (fun _ (_ : Unit) => False) (fun _ _ => True) (fun _ => False)) (vx_X (fun _ : Unit => True) (fun E _ _ => E = "java/lang/IndexOutOfBoundsException") (fun q => sz ≤ q)) 1 6 (fun q => sz ≤ q) := by
  refine vx_ofW (cc := cX4_buyOn) (maxL := 7) (ret := (some .int)) (by decide) rfl ?_
  intro p e s m args below meth c s₁ B hml htab hv
  obtain ⟨rfl, hsz, hP, hK, hD0, hQ⟩ := hv
  have hx := B.exec
  have hb := B.bytes
  have hr := B.returns
  have hts : ∀ w ∈ zG, w.before _ s = true := fun w h => atoms_spec (ws := ws_X4_buyOn) B.pre w (List.mem_cons_of_mem _ h)
  have hown : s.vm.findClass RX4 = some m.cls := findClass_of_methodNamed B.named
  have hlocks := B.notSynchronized
  subst hsz
  have hD := hD0.self (sz := s.heap.size)
  generalize hAe : va_A [(h0, .inr (5, [.ref ac, w0, b0, .int dd])), (ac, .inr (0, [.int 0, ed, .int 0]))] s.heap.size = A at hD hQ
  have hA : ∀ q : Nat, s.heap.size ≤ q → A q := fun q h => by rw [← hAe]; exact Or.inr h
  have hS : va_S A s.heap s.heap [] := va_S.rf
  have hSn : va_S (fun q => s.heap.size ≤ q) s.heap s.heap [] := va_S.rf
  have hP : va_P (dC, dI) zc [(h0, .inr (5, [.ref ac, w0, b0, .int dd])), (ac, .inr (0, [.int 0, ed, .int 0]))] s.heap := hP
  have hl := lv_entry ([.ref h0, .int a1, .int a2, .int a3, .int a4]) (n := 7) (Nat.le_of_ble_eq_true rfl)
  rw [lg_entry_eq]
  generalize (lg_sl ([.ref h0, .int a1, .int a2, .int a3, .int a4]) ++ List.replicate (7 - (lg_sl ([.ref h0, .int a1, .int a2, .int a3, .int a4])).length) Slot.unset).toArray = ls at hl ⊢
  have hl : lv_has ls 7 [(0, .ref h0), (1, .int a1), (2, .int a2), (3, .int a3), (4, .int a4)] := hl
  refine lv_aload_n hx hb dX4_buyOn_0 rfl (lv_at hl 0 rfl) ?_
  refine lv_iload_n hx hb dX4_buyOn_1 rfl (lv_at hl 1 rfl) ?_
  refine vx_callq (vx_runV (As := [.int a1]) (rest := []) ⟨hx, hb, hml, hown, hts⟩ (c_accountAt l hst dC dI s.heap.size t h0 ac w0 b0 dd a1 ed) (cwV 1 hts (zg_V kw_668 kw_670 kw_30 kw_64 kw_671) rfl rfl rfl (by decide +kernel) ⟨Nat.le_of_ble_eq_true rfl, Nat.le_of_ble_eq_true rfl⟩) ⟨zA_blind, va_recv hK hP (ci := 5) (q0 := 0) rfl rfl, zA_pre hP hD hS hK hQ hA [0, 1] rfl rfl (by decide) [] rfl⟩ rfl rfl hl.1 rfl (lv_room (Nat.le_of_ble_eq_true rfl)) dX4_buyOn_2 ⟨zl_b rfl, zl_b rfl⟩) hSn (fun q _ h => h.elim) (fun q h => Nat.le_trans (Nat.le_refl _) h) (fun q _ h => Nat.le_trans (Nat.le_refl _) h) (fun E ce q9 u t9 H1 locs1 ht hvm hp9 hE hz1 hk1 hS1 hc1 hv1 hcl1 => ?_) (fun r u t9 H1 locs1 ht hvm hw hB hz1 hk1 hS1 => hw.elim)
  have hE : E = "java/lang/IndexOutOfBoundsException" := hE
  subst hE
  refine vx_widen (k := 1) (n := 6) (zl_b rfl) (zl_b rfl) ?_
  exact vx_out (fun x hx => (htab x hx).elim) hlocks hc1 hv1 hcl1 (fun t ht hW => ⟨(), trivial, rfl, zS_F hS1 ht⟩) hS1.2.2 (zl_b rfl) (zl_b rfl)
set_option maxHeartbeats 4000000 in
set_option maxRecDepth 100000 in
/-- abroad: no such account -/
theorem c_abroad (l : Launch) (hst : l.stackTraces = false) (dC : Nat → ClassId) (dI : Nat → Nat → Nat) (sz t : Nat) (h0 ac : Nat) (w0 b0 : Value) (dd : Int32) (ed : Value) (a1 a2 a3 : Int32) : vx_Met l yX4_abroad ws_X4_abroad ({ frames := 7, cells := 1, slots := 6, locals := 120 }) (zA dC dI [(h0, .inr (5, [.ref ac, w0, b0, .int dd])), (ac, .inr (0, [.int 0, ed, .int 0]))] [] sz t [.ref h0, .int a1, .int a2, .int a3]) (va_Qi (fun _ (_ : Unit) => False) (fun _ _ => True) (fun _ => False)) (vx_X (fun _ : Unit => True) (fun E _ _ => E = "java/lang/IndexOutOfBoundsException") (fun q => sz ≤ q)) 1 6 (fun q => sz ≤ q) := by
  refine vx_ofW (cc := cX4_abroad) (maxL := 7) (ret := (some .int)) (by decide) rfl ?_
  intro p e s m args below meth c s₁ B hml htab hv
  obtain ⟨rfl, hsz, hP, hK, hD0, hQ⟩ := hv
  have hx := B.exec
  have hb := B.bytes
  have hr := B.returns
  have hts : ∀ w ∈ zG, w.before _ s = true := fun w h => atoms_spec (ws := ws_X4_abroad) B.pre w (List.mem_cons_of_mem _ h)
  have hown : s.vm.findClass RX4 = some m.cls := findClass_of_methodNamed B.named
  have hlocks := B.notSynchronized
  subst hsz
  have hD := hD0.self (sz := s.heap.size)
  generalize hAe : va_A [(h0, .inr (5, [.ref ac, w0, b0, .int dd])), (ac, .inr (0, [.int 0, ed, .int 0]))] s.heap.size = A at hD hQ
  have hA : ∀ q : Nat, s.heap.size ≤ q → A q := fun q h => by rw [← hAe]; exact Or.inr h
  have hS : va_S A s.heap s.heap [] := va_S.rf
  have hSn : va_S (fun q => s.heap.size ≤ q) s.heap s.heap [] := va_S.rf
  have hP : va_P (dC, dI) zc [(h0, .inr (5, [.ref ac, w0, b0, .int dd])), (ac, .inr (0, [.int 0, ed, .int 0]))] s.heap := hP
  have hl := lv_entry ([.ref h0, .int a1, .int a2, .int a3]) (n := 7) (Nat.le_of_ble_eq_true rfl)
  rw [lg_entry_eq]
  generalize (lg_sl ([.ref h0, .int a1, .int a2, .int a3]) ++ List.replicate (7 - (lg_sl ([.ref h0, .int a1, .int a2, .int a3])).length) Slot.unset).toArray = ls at hl ⊢
  have hl : lv_has ls 7 [(0, .ref h0), (1, .int a1), (2, .int a2), (3, .int a3)] := hl
  refine lv_aload_n hx hb dX4_abroad_0 rfl (lv_at hl 0 rfl) ?_
  refine lv_iload_n hx hb dX4_abroad_1 rfl (lv_at hl 1 rfl) ?_
  refine vx_callq (vx_runV (As := [.int a1]) (rest := []) ⟨hx, hb, hml, hown, hts⟩ (c_accountAt l hst dC dI s.heap.size t h0 ac w0 b0 dd a1 ed) (cwV 1 hts (zg_V kw_668 kw_670 kw_30 kw_64 kw_671) rfl rfl rfl (by decide +kernel) ⟨Nat.le_of_ble_eq_true rfl, Nat.le_of_ble_eq_true rfl⟩) ⟨zA_blind, va_recv hK hP (ci := 5) (q0 := 0) rfl rfl, zA_pre hP hD hS hK hQ hA [0, 1] rfl rfl (by decide) [] rfl⟩ rfl rfl hl.1 rfl (lv_room (Nat.le_of_ble_eq_true rfl)) dX4_abroad_2 ⟨zl_b rfl, zl_b rfl⟩) hSn (fun q _ h => h.elim) (fun q h => Nat.le_trans (Nat.le_refl _) h) (fun q _ h => Nat.le_trans (Nat.le_refl _) h) (fun E ce q9 u t9 H1 locs1 ht hvm hp9 hE hz1 hk1 hS1 hc1 hv1 hcl1 => ?_) (fun r u t9 H1 locs1 ht hvm hw hB hz1 hk1 hS1 => hw.elim)
  have hE : E = "java/lang/IndexOutOfBoundsException" := hE
  subst hE
  refine vx_widen (k := 1) (n := 6) (zl_b rfl) (zl_b rfl) ?_
  exact vx_out (fun x hx => (htab x hx).elim) hlocks hc1 hv1 hcl1 (fun t ht hW => ⟨(), trivial, rfl, zS_F hS1 ht⟩) hS1.2.2 (zl_b rfl) (zl_b rfl)
set_option maxHeartbeats 4000000 in
set_option maxRecDepth 100000 in
/-- pay: no such account -/
theorem c_pay (l : Launch) (hst : l.stackTraces = false) (dC : Nat → ClassId) (dI : Nat → Nat → Nat) (sz t : Nat) (h0 ac : Nat) (w0 b0 : Value) (dd : Int32) (ed : Value) (a1 a2 : Int32) : vx_Met l yX4_pay ws_X4_pay ({ frames := 7, cells := 1, slots := 6, locals := 120 }) (zA dC dI [(h0, .inr (5, [.ref ac, w0, b0, .int dd])), (ac, .inr (0, [.int 0, ed, .int 0]))] [] sz t [.ref h0, .int a1, .int a2]) (va_Qi (fun _ (_ : Unit) => False) (fun _ _ => True) (fun _ => False)) (vx_X (fun _ : Unit => True) (fun E _ _ => E = "java/lang/IndexOutOfBoundsException") (fun q => sz ≤ q)) 1 6 (fun q => sz ≤ q) := by
  refine vx_ofW (cc := cX4_pay) (maxL := 4) (ret := (some .int)) (by decide) rfl ?_
  intro p e s m args below meth c s₁ B hml htab hv
  obtain ⟨rfl, hsz, hP, hK, hD0, hQ⟩ := hv
  have hx := B.exec
  have hb := B.bytes
  have hr := B.returns
  have hts : ∀ w ∈ zG, w.before _ s = true := fun w h => atoms_spec (ws := ws_X4_pay) B.pre w (List.mem_cons_of_mem _ h)
  have hown : s.vm.findClass RX4 = some m.cls := findClass_of_methodNamed B.named
  have hlocks := B.notSynchronized
  subst hsz
  have hD := hD0.self (sz := s.heap.size)
  generalize hAe : va_A [(h0, .inr (5, [.ref ac, w0, b0, .int dd])), (ac, .inr (0, [.int 0, ed, .int 0]))] s.heap.size = A at hD hQ
  have hA : ∀ q : Nat, s.heap.size ≤ q → A q := fun q h => by rw [← hAe]; exact Or.inr h
  have hS : va_S A s.heap s.heap [] := va_S.rf
  have hSn : va_S (fun q => s.heap.size ≤ q) s.heap s.heap [] := va_S.rf
  have hP : va_P (dC, dI) zc [(h0, .inr (5, [.ref ac, w0, b0, .int dd])), (ac, .inr (0, [.int 0, ed, .int 0]))] s.heap := hP
  have hl := lv_entry ([.ref h0, .int a1, .int a2]) (n := 4) (Nat.le_of_ble_eq_true rfl)
  rw [lg_entry_eq]
  generalize (lg_sl ([.ref h0, .int a1, .int a2]) ++ List.replicate (4 - (lg_sl ([.ref h0, .int a1, .int a2])).length) Slot.unset).toArray = ls at hl ⊢
  have hl : lv_has ls 4 [(0, .ref h0), (1, .int a1), (2, .int a2)] := hl
  refine lv_aload_n hx hb dX4_pay_0 rfl (lv_at hl 0 rfl) ?_
  refine lv_iload_n hx hb dX4_pay_1 rfl (lv_at hl 1 rfl) ?_
  refine vx_callq (vx_runV (As := [.int a1]) (rest := []) ⟨hx, hb, hml, hown, hts⟩ (c_accountAt l hst dC dI s.heap.size t h0 ac w0 b0 dd a1 ed) (cwV 1 hts (zg_V kw_668 kw_670 kw_30 kw_64 kw_671) rfl rfl rfl (by decide +kernel) ⟨Nat.le_of_ble_eq_true rfl, Nat.le_of_ble_eq_true rfl⟩) ⟨zA_blind, va_recv hK hP (ci := 5) (q0 := 0) rfl rfl, zA_pre hP hD hS hK hQ hA [0, 1] rfl rfl (by decide) [] rfl⟩ rfl rfl hl.1 rfl (lv_room (Nat.le_of_ble_eq_true rfl)) dX4_pay_2 ⟨zl_b rfl, zl_b rfl⟩) hSn (fun q _ h => h.elim) (fun q h => Nat.le_trans (Nat.le_refl _) h) (fun q _ h => Nat.le_trans (Nat.le_refl _) h) (fun E ce q9 u t9 H1 locs1 ht hvm hp9 hE hz1 hk1 hS1 hc1 hv1 hcl1 => ?_) (fun r u t9 H1 locs1 ht hvm hw hB hz1 hk1 hS1 => hw.elim)
  have hE : E = "java/lang/IndexOutOfBoundsException" := hE
  subst hE
  refine vx_widen (k := 1) (n := 6) (zl_b rfl) (zl_b rfl) ?_
  exact vx_out (fun x hx => (htab x hx).elim) hlocks hc1 hv1 hcl1 (fun t ht hW => ⟨(), trivial, rfl, zS_F hS1 ht⟩) hS1.2.2 (zl_b rfl) (zl_b rfl)
set_option maxHeartbeats 4000000 in
set_option maxRecDepth 100000 in
/-- returns: no such account -/
theorem c_returns (l : Launch) (hst : l.stackTraces = false) (dC : Nat → ClassId) (dI : Nat → Nat → Nat) (sz t : Nat) (h0 ac : Nat) (w0 b0 : Value) (dd : Int32) (ed : Value) (a1 a2 : Int32) : vx_Met l yX4_returns ws_X4_returns ({ frames := 7, cells := 1, slots := 6, locals := 120 }) (zA dC dI [(h0, .inr (5, [.ref ac, w0, b0, .int dd])), (ac, .inr (0, [.int 0, ed, .int 0]))] [] sz t [.ref h0, .int a1, .int a2]) (va_Qi (fun _ (_ : Unit) => False) (fun _ _ => True) (fun _ => False)) (vx_X (fun _ : Unit => True) (fun E _ _ => E = "java/lang/IndexOutOfBoundsException") (fun q => sz ≤ q)) 1 6 (fun q => sz ≤ q) := by
  refine vx_ofW (cc := cX4_returns) (maxL := 5) (ret := (some .int)) (by decide) rfl ?_
  intro p e s m args below meth c s₁ B hml htab hv
  obtain ⟨rfl, hsz, hP, hK, hD0, hQ⟩ := hv
  have hx := B.exec
  have hb := B.bytes
  have hr := B.returns
  have hts : ∀ w ∈ zG, w.before _ s = true := fun w h => atoms_spec (ws := ws_X4_returns) B.pre w (List.mem_cons_of_mem _ h)
  have hown : s.vm.findClass RX4 = some m.cls := findClass_of_methodNamed B.named
  have hlocks := B.notSynchronized
  subst hsz
  have hD := hD0.self (sz := s.heap.size)
  generalize hAe : va_A [(h0, .inr (5, [.ref ac, w0, b0, .int dd])), (ac, .inr (0, [.int 0, ed, .int 0]))] s.heap.size = A at hD hQ
  have hA : ∀ q : Nat, s.heap.size ≤ q → A q := fun q h => by rw [← hAe]; exact Or.inr h
  have hS : va_S A s.heap s.heap [] := va_S.rf
  have hSn : va_S (fun q => s.heap.size ≤ q) s.heap s.heap [] := va_S.rf
  have hP : va_P (dC, dI) zc [(h0, .inr (5, [.ref ac, w0, b0, .int dd])), (ac, .inr (0, [.int 0, ed, .int 0]))] s.heap := hP
  have hl := lv_entry ([.ref h0, .int a1, .int a2]) (n := 5) (Nat.le_of_ble_eq_true rfl)
  rw [lg_entry_eq]
  generalize (lg_sl ([.ref h0, .int a1, .int a2]) ++ List.replicate (5 - (lg_sl ([.ref h0, .int a1, .int a2])).length) Slot.unset).toArray = ls at hl ⊢
  have hl : lv_has ls 5 [(0, .ref h0), (1, .int a1), (2, .int a2)] := hl
  refine lv_aload_n hx hb dX4_returns_0 rfl (lv_at hl 0 rfl) ?_
  refine lv_iload_n hx hb dX4_returns_1 rfl (lv_at hl 1 rfl) ?_
  refine vx_callq (vx_runV (As := [.int a1]) (rest := []) ⟨hx, hb, hml, hown, hts⟩ (c_accountAt l hst dC dI s.heap.size t h0 ac w0 b0 dd a1 ed) (cwV 1 hts (zg_V kw_668 kw_670 kw_30 kw_64 kw_671) rfl rfl rfl (by decide +kernel) ⟨Nat.le_of_ble_eq_true rfl, Nat.le_of_ble_eq_true rfl⟩) ⟨zA_blind, va_recv hK hP (ci := 5) (q0 := 0) rfl rfl, zA_pre hP hD hS hK hQ hA [0, 1] rfl rfl (by decide) [] rfl⟩ rfl rfl hl.1 rfl (lv_room (Nat.le_of_ble_eq_true rfl)) dX4_returns_2 ⟨zl_b rfl, zl_b rfl⟩) hSn (fun q _ h => h.elim) (fun q h => Nat.le_trans (Nat.le_refl _) h) (fun q _ h => Nat.le_trans (Nat.le_refl _) h) (fun E ce q9 u t9 H1 locs1 ht hvm hp9 hE hz1 hk1 hS1 hc1 hv1 hcl1 => ?_) (fun r u t9 H1 locs1 ht hvm hw hB hz1 hk1 hS1 => hw.elim)
  have hE : E = "java/lang/IndexOutOfBoundsException" := hE
  subst hE
  refine vx_widen (k := 1) (n := 6) (zl_b rfl) (zl_b rfl) ?_
  exact vx_out (fun x hx => (htab x hx).elim) hlocks hc1 hv1 hcl1 (fun t ht hW => ⟨(), trivial, rfl, zS_F hS1 ht⟩) hS1.2.2 (zl_b rfl) (zl_b rfl)
set_option maxHeartbeats 4000000 in
set_option maxRecDepth 100000 in
/-- dispute: no such account -/
theorem c_dispute (l : Launch) (hst : l.stackTraces = false) (dC : Nat → ClassId) (dI : Nat → Nat → Nat) (sz t : Nat) (h0 ac : Nat) (w0 b0 : Value) (dd : Int32) (ed : Value) (a1 a2 : Int32) : vx_Met l yX4_dispute ws_X4_dispute ({ frames := 7, cells := 1, slots := 6, locals := 120 }) (zA dC dI [(h0, .inr (5, [.ref ac, w0, b0, .int dd])), (ac, .inr (0, [.int 0, ed, .int 0]))] [] sz t [.ref h0, .int a1, .int a2]) (va_Qi (fun _ (_ : Unit) => False) (fun _ _ => True) (fun _ => False)) (vx_X (fun _ : Unit => True) (fun E _ _ => E = "java/lang/IndexOutOfBoundsException") (fun q => sz ≤ q)) 1 6 (fun q => sz ≤ q) := by
  refine vx_ofW (cc := cX4_dispute) (maxL := 5) (ret := (some .int)) (by decide) rfl ?_
  intro p e s m args below meth c s₁ B hml htab hv
  obtain ⟨rfl, hsz, hP, hK, hD0, hQ⟩ := hv
  have hx := B.exec
  have hb := B.bytes
  have hr := B.returns
  have hts : ∀ w ∈ zG, w.before _ s = true := fun w h => atoms_spec (ws := ws_X4_dispute) B.pre w (List.mem_cons_of_mem _ h)
  have hown : s.vm.findClass RX4 = some m.cls := findClass_of_methodNamed B.named
  have hlocks := B.notSynchronized
  subst hsz
  have hD := hD0.self (sz := s.heap.size)
  generalize hAe : va_A [(h0, .inr (5, [.ref ac, w0, b0, .int dd])), (ac, .inr (0, [.int 0, ed, .int 0]))] s.heap.size = A at hD hQ
  have hA : ∀ q : Nat, s.heap.size ≤ q → A q := fun q h => by rw [← hAe]; exact Or.inr h
  have hS : va_S A s.heap s.heap [] := va_S.rf
  have hSn : va_S (fun q => s.heap.size ≤ q) s.heap s.heap [] := va_S.rf
  have hP : va_P (dC, dI) zc [(h0, .inr (5, [.ref ac, w0, b0, .int dd])), (ac, .inr (0, [.int 0, ed, .int 0]))] s.heap := hP
  have hl := lv_entry ([.ref h0, .int a1, .int a2]) (n := 5) (Nat.le_of_ble_eq_true rfl)
  rw [lg_entry_eq]
  generalize (lg_sl ([.ref h0, .int a1, .int a2]) ++ List.replicate (5 - (lg_sl ([.ref h0, .int a1, .int a2])).length) Slot.unset).toArray = ls at hl ⊢
  have hl : lv_has ls 5 [(0, .ref h0), (1, .int a1), (2, .int a2)] := hl
  refine lv_aload_n hx hb dX4_dispute_0 rfl (lv_at hl 0 rfl) ?_
  refine lv_iload_n hx hb dX4_dispute_1 rfl (lv_at hl 1 rfl) ?_
  refine vx_callq (vx_runV (As := [.int a1]) (rest := []) ⟨hx, hb, hml, hown, hts⟩ (c_accountAt l hst dC dI s.heap.size t h0 ac w0 b0 dd a1 ed) (cwV 1 hts (zg_V kw_668 kw_670 kw_30 kw_64 kw_671) rfl rfl rfl (by decide +kernel) ⟨Nat.le_of_ble_eq_true rfl, Nat.le_of_ble_eq_true rfl⟩) ⟨zA_blind, va_recv hK hP (ci := 5) (q0 := 0) rfl rfl, zA_pre hP hD hS hK hQ hA [0, 1] rfl rfl (by decide) [] rfl⟩ rfl rfl hl.1 rfl (lv_room (Nat.le_of_ble_eq_true rfl)) dX4_dispute_2 ⟨zl_b rfl, zl_b rfl⟩) hSn (fun q _ h => h.elim) (fun q h => Nat.le_trans (Nat.le_refl _) h) (fun q _ h => Nat.le_trans (Nat.le_refl _) h) (fun E ce q9 u t9 H1 locs1 ht hvm hp9 hE hz1 hk1 hS1 hc1 hv1 hcl1 => ?_) (fun r u t9 H1 locs1 ht hvm hw hB hz1 hk1 hS1 => hw.elim)
  have hE : E = "java/lang/IndexOutOfBoundsException" := hE
  subst hE
  refine vx_widen (k := 1) (n := 6) (zl_b rfl) (zl_b rfl) ?_
  exact vx_out (fun x hx => (htab x hx).elim) hlocks hc1 hv1 hcl1 (fun t ht hW => ⟨(), trivial, rfl, zS_F hS1 ht⟩) hS1.2.2 (zl_b rfl) (zl_b rfl)
set_option maxHeartbeats 4000000 in
set_option maxRecDepth 100000 in
/-- settle: no such account -/
theorem c_settle (l : Launch) (hst : l.stackTraces = false) (dC : Nat → ClassId) (dI : Nat → Nat → Nat) (sz t : Nat) (h0 ac : Nat) (w0 b0 : Value) (dd : Int32) (ed : Value) (a1 a2 a3 : Int32) : vx_Met l yX4_settle ws_X4_settle ({ frames := 7, cells := 1, slots := 6, locals := 120 }) (zA dC dI [(h0, .inr (5, [.ref ac, w0, b0, .int dd])), (ac, .inr (0, [.int 0, ed, .int 0]))] [] sz t [.ref h0, .int a1, .int a2, .int a3]) (va_Ql (fun _ (_ : Unit) => False) (fun _ _ => True) (fun _ => False)) (vx_X (fun _ : Unit => True) (fun E _ _ => E = "java/lang/IndexOutOfBoundsException") (fun q => sz ≤ q)) 1 6 (fun q => sz ≤ q) := by
  refine vx_ofW (cc := cX4_settle) (maxL := 6) (ret := (some .long)) (by decide) rfl ?_
  intro p e s m args below meth c s₁ B hml htab hv
  obtain ⟨rfl, hsz, hP, hK, hD0, hQ⟩ := hv
  have hx := B.exec
  have hb := B.bytes
  have hr := B.returns
  have hts : ∀ w ∈ zG, w.before _ s = true := fun w h => atoms_spec (ws := ws_X4_settle) B.pre w (List.mem_cons_of_mem _ h)
  have hown : s.vm.findClass RX4 = some m.cls := findClass_of_methodNamed B.named
  have hlocks := B.notSynchronized
  subst hsz
  have hD := hD0.self (sz := s.heap.size)
  generalize hAe : va_A [(h0, .inr (5, [.ref ac, w0, b0, .int dd])), (ac, .inr (0, [.int 0, ed, .int 0]))] s.heap.size = A at hD hQ
  have hA : ∀ q : Nat, s.heap.size ≤ q → A q := fun q h => by rw [← hAe]; exact Or.inr h
  have hS : va_S A s.heap s.heap [] := va_S.rf
  have hSn : va_S (fun q => s.heap.size ≤ q) s.heap s.heap [] := va_S.rf
  have hP : va_P (dC, dI) zc [(h0, .inr (5, [.ref ac, w0, b0, .int dd])), (ac, .inr (0, [.int 0, ed, .int 0]))] s.heap := hP
  have hl := lv_entry ([.ref h0, .int a1, .int a2, .int a3]) (n := 6) (Nat.le_of_ble_eq_true rfl)
  rw [lg_entry_eq]
  generalize (lg_sl ([.ref h0, .int a1, .int a2, .int a3]) ++ List.replicate (6 - (lg_sl ([.ref h0, .int a1, .int a2, .int a3])).length) Slot.unset).toArray = ls at hl ⊢
  have hl : lv_has ls 6 [(0, .ref h0), (1, .int a1), (2, .int a2), (3, .int a3)] := hl
  refine lv_aload_n hx hb dX4_settle_0 rfl (lv_at hl 0 rfl) ?_
  refine lv_iload_n hx hb dX4_settle_1 rfl (lv_at hl 1 rfl) ?_
  refine vx_callq (vx_runV (As := [.int a1]) (rest := []) ⟨hx, hb, hml, hown, hts⟩ (c_accountAt l hst dC dI s.heap.size t h0 ac w0 b0 dd a1 ed) (cwV 1 hts (zg_V kw_668 kw_670 kw_30 kw_64 kw_671) rfl rfl rfl (by decide +kernel) ⟨Nat.le_of_ble_eq_true rfl, Nat.le_of_ble_eq_true rfl⟩) ⟨zA_blind, va_recv hK hP (ci := 5) (q0 := 0) rfl rfl, zA_pre hP hD hS hK hQ hA [0, 1] rfl rfl (by decide) [] rfl⟩ rfl rfl hl.1 rfl (lv_room (Nat.le_of_ble_eq_true rfl)) dX4_settle_2 ⟨zl_b rfl, zl_b rfl⟩) hSn (fun q _ h => h.elim) (fun q h => Nat.le_trans (Nat.le_refl _) h) (fun q _ h => Nat.le_trans (Nat.le_refl _) h) (fun E ce q9 u t9 H1 locs1 ht hvm hp9 hE hz1 hk1 hS1 hc1 hv1 hcl1 => ?_) (fun r u t9 H1 locs1 ht hvm hw hB hz1 hk1 hS1 => hw.elim)
  have hE : E = "java/lang/IndexOutOfBoundsException" := hE
  subst hE
  refine vx_widen (k := 1) (n := 6) (zl_b rfl) (zl_b rfl) ?_
  exact vx_out (fun x hx => (htab x hx).elim) hlocks hc1 hv1 hcl1 (fun t ht hW => ⟨(), trivial, rfl, zS_F hS1 ht⟩) hS1.2.2 (zl_b rfl) (zl_b rfl)
set_option maxHeartbeats 4000000 in
set_option maxRecDepth 100000 in
/-- reverse: no such account -/
theorem c_reverse (l : Launch) (hst : l.stackTraces = false) (dC : Nat → ClassId) (dI : Nat → Nat → Nat) (sz t : Nat) (h0 ac : Nat) (w0 b0 : Value) (dd : Int32) (ed : Value) (a1 a2 : Int32) : vx_Met l yX4_reverse ws_X4_reverse ({ frames := 7, cells := 1, slots := 6, locals := 120 }) (zA dC dI [(h0, .inr (5, [.ref ac, w0, b0, .int dd])), (ac, .inr (0, [.int 0, ed, .int 0]))] [] sz t [.ref h0, .int a1, .int a2]) (va_Ql (fun _ (_ : Unit) => False) (fun _ _ => True) (fun _ => False)) (vx_X (fun _ : Unit => True) (fun E _ _ => E = "java/lang/IndexOutOfBoundsException") (fun q => sz ≤ q)) 1 6 (fun q => sz ≤ q) := by
  refine vx_ofW (cc := cX4_reverse) (maxL := 5) (ret := (some .long)) (by decide) rfl ?_
  intro p e s m args below meth c s₁ B hml htab hv
  obtain ⟨rfl, hsz, hP, hK, hD0, hQ⟩ := hv
  have hx := B.exec
  have hb := B.bytes
  have hr := B.returns
  have hts : ∀ w ∈ zG, w.before _ s = true := fun w h => atoms_spec (ws := ws_X4_reverse) B.pre w (List.mem_cons_of_mem _ h)
  have hown : s.vm.findClass RX4 = some m.cls := findClass_of_methodNamed B.named
  have hlocks := B.notSynchronized
  subst hsz
  have hD := hD0.self (sz := s.heap.size)
  generalize hAe : va_A [(h0, .inr (5, [.ref ac, w0, b0, .int dd])), (ac, .inr (0, [.int 0, ed, .int 0]))] s.heap.size = A at hD hQ
  have hA : ∀ q : Nat, s.heap.size ≤ q → A q := fun q h => by rw [← hAe]; exact Or.inr h
  have hS : va_S A s.heap s.heap [] := va_S.rf
  have hSn : va_S (fun q => s.heap.size ≤ q) s.heap s.heap [] := va_S.rf
  have hP : va_P (dC, dI) zc [(h0, .inr (5, [.ref ac, w0, b0, .int dd])), (ac, .inr (0, [.int 0, ed, .int 0]))] s.heap := hP
  have hl := lv_entry ([.ref h0, .int a1, .int a2]) (n := 5) (Nat.le_of_ble_eq_true rfl)
  rw [lg_entry_eq]
  generalize (lg_sl ([.ref h0, .int a1, .int a2]) ++ List.replicate (5 - (lg_sl ([.ref h0, .int a1, .int a2])).length) Slot.unset).toArray = ls at hl ⊢
  have hl : lv_has ls 5 [(0, .ref h0), (1, .int a1), (2, .int a2)] := hl
  refine lv_aload_n hx hb dX4_reverse_0 rfl (lv_at hl 0 rfl) ?_
  refine lv_iload_n hx hb dX4_reverse_1 rfl (lv_at hl 1 rfl) ?_
  refine vx_callq (vx_runV (As := [.int a1]) (rest := []) ⟨hx, hb, hml, hown, hts⟩ (c_accountAt l hst dC dI s.heap.size t h0 ac w0 b0 dd a1 ed) (cwV 1 hts (zg_V kw_668 kw_670 kw_30 kw_64 kw_671) rfl rfl rfl (by decide +kernel) ⟨Nat.le_of_ble_eq_true rfl, Nat.le_of_ble_eq_true rfl⟩) ⟨zA_blind, va_recv hK hP (ci := 5) (q0 := 0) rfl rfl, zA_pre hP hD hS hK hQ hA [0, 1] rfl rfl (by decide) [] rfl⟩ rfl rfl hl.1 rfl (lv_room (Nat.le_of_ble_eq_true rfl)) dX4_reverse_2 ⟨zl_b rfl, zl_b rfl⟩) hSn (fun q _ h => h.elim) (fun q h => Nat.le_trans (Nat.le_refl _) h) (fun q _ h => Nat.le_trans (Nat.le_refl _) h) (fun E ce q9 u t9 H1 locs1 ht hvm hp9 hE hz1 hk1 hS1 hc1 hv1 hcl1 => ?_) (fun r u t9 H1 locs1 ht hvm hw hB hz1 hk1 hS1 => hw.elim)
  have hE : E = "java/lang/IndexOutOfBoundsException" := hE
  subst hE
  refine vx_widen (k := 1) (n := 6) (zl_b rfl) (zl_b rfl) ?_
  exact vx_out (fun x hx => (htab x hx).elim) hlocks hc1 hv1 hcl1 (fun t ht hW => ⟨(), trivial, rfl, zS_F hS1 ht⟩) hS1.2.2 (zl_b rfl) (zl_b rfl)
set_option maxHeartbeats 4000000 in
set_option maxRecDepth 100000 in
/-- plan: no such account -/
theorem c_plan (l : Launch) (hst : l.stackTraces = false) (dC : Nat → ClassId) (dI : Nat → Nat → Nat) (sz t : Nat) (h0 ac : Nat) (w0 b0 : Value) (dd : Int32) (ed : Value) (a1 : Int32) : vx_Met l yX4_plan ws_X4_plan ({ frames := 7, cells := 1, slots := 6, locals := 120 }) (zA dC dI [(h0, .inr (5, [.ref ac, w0, b0, .int dd])), (ac, .inr (0, [.int 0, ed, .int 0]))] [] sz t [.ref h0, .int a1]) (va_Qi (fun _ (_ : Unit) => False) (fun _ _ => True) (fun _ => False)) (vx_X (fun _ : Unit => True) (fun E _ _ => E = "java/lang/IndexOutOfBoundsException") (fun q => sz ≤ q)) 1 6 (fun q => sz ≤ q) := by
  refine vx_ofW (cc := cX4_plan) (maxL := 3) (ret := (some .int)) (by decide) rfl ?_
  intro p e s m args below meth c s₁ B hml htab hv
  obtain ⟨rfl, hsz, hP, hK, hD0, hQ⟩ := hv
  have hx := B.exec
  have hb := B.bytes
  have hr := B.returns
  have hts : ∀ w ∈ zG, w.before _ s = true := fun w h => atoms_spec (ws := ws_X4_plan) B.pre w (List.mem_cons_of_mem _ h)
  have hown : s.vm.findClass RX4 = some m.cls := findClass_of_methodNamed B.named
  have hlocks := B.notSynchronized
  subst hsz
  have hD := hD0.self (sz := s.heap.size)
  generalize hAe : va_A [(h0, .inr (5, [.ref ac, w0, b0, .int dd])), (ac, .inr (0, [.int 0, ed, .int 0]))] s.heap.size = A at hD hQ
  have hA : ∀ q : Nat, s.heap.size ≤ q → A q := fun q h => by rw [← hAe]; exact Or.inr h
  have hS : va_S A s.heap s.heap [] := va_S.rf
  have hSn : va_S (fun q => s.heap.size ≤ q) s.heap s.heap [] := va_S.rf
  have hP : va_P (dC, dI) zc [(h0, .inr (5, [.ref ac, w0, b0, .int dd])), (ac, .inr (0, [.int 0, ed, .int 0]))] s.heap := hP
  have hl := lv_entry ([.ref h0, .int a1]) (n := 3) (Nat.le_of_ble_eq_true rfl)
  rw [lg_entry_eq]
  generalize (lg_sl ([.ref h0, .int a1]) ++ List.replicate (3 - (lg_sl ([.ref h0, .int a1])).length) Slot.unset).toArray = ls at hl ⊢
  have hl : lv_has ls 3 [(0, .ref h0), (1, .int a1)] := hl
  refine lv_aload_n hx hb dX4_plan_0 rfl (lv_at hl 0 rfl) ?_
  refine lv_iload_n hx hb dX4_plan_1 rfl (lv_at hl 1 rfl) ?_
  refine vx_callq (vx_runV (As := [.int a1]) (rest := []) ⟨hx, hb, hml, hown, hts⟩ (c_accountAt l hst dC dI s.heap.size t h0 ac w0 b0 dd a1 ed) (cwV 1 hts (zg_V kw_668 kw_670 kw_30 kw_64 kw_671) rfl rfl rfl (by decide +kernel) ⟨Nat.le_of_ble_eq_true rfl, Nat.le_of_ble_eq_true rfl⟩) ⟨zA_blind, va_recv hK hP (ci := 5) (q0 := 0) rfl rfl, zA_pre hP hD hS hK hQ hA [0, 1] rfl rfl (by decide) [] rfl⟩ rfl rfl hl.1 rfl (lv_room (Nat.le_of_ble_eq_true rfl)) dX4_plan_2 ⟨zl_b rfl, zl_b rfl⟩) hSn (fun q _ h => h.elim) (fun q h => Nat.le_trans (Nat.le_refl _) h) (fun q _ h => Nat.le_trans (Nat.le_refl _) h) (fun E ce q9 u t9 H1 locs1 ht hvm hp9 hE hz1 hk1 hS1 hc1 hv1 hcl1 => ?_) (fun r u t9 H1 locs1 ht hvm hw hB hz1 hk1 hS1 => hw.elim)
  have hE : E = "java/lang/IndexOutOfBoundsException" := hE
  subst hE
  refine vx_widen (k := 1) (n := 6) (zl_b rfl) (zl_b rfl) ?_
  exact vx_out (fun x hx => (htab x hx).elim) hlocks hc1 hv1 hcl1 (fun t ht hW => ⟨(), trivial, rfl, zS_F hS1 ht⟩) hS1.2.2 (zl_b rfl) (zl_b rfl)
set_option maxHeartbeats 4000000 in
set_option maxRecDepth 100000 in
/-- redeem: no such account -/
theorem c_redeem (l : Launch) (hst : l.stackTraces = false) (dC : Nat → ClassId) (dI : Nat → Nat → Nat) (sz t : Nat) (h0 ac : Nat) (w0 b0 : Value) (dd : Int32) (ed : Value) (a1 a2 : Int32) : vx_Met l yX4_redeem ws_X4_redeem ({ frames := 7, cells := 1, slots := 6, locals := 120 }) (zA dC dI [(h0, .inr (5, [.ref ac, w0, b0, .int dd])), (ac, .inr (0, [.int 0, ed, .int 0]))] [] sz t [.ref h0, .int a1, .int a2]) (va_Qi (fun _ (_ : Unit) => False) (fun _ _ => True) (fun _ => False)) (vx_X (fun _ : Unit => True) (fun E _ _ => E = "java/lang/IndexOutOfBoundsException") (fun q => sz ≤ q)) 1 6 (fun q => sz ≤ q) := by
  refine vx_ofW (cc := cX4_redeem) (maxL := 4) (ret := (some .int)) (by decide) rfl ?_
  intro p e s m args below meth c s₁ B hml htab hv
  obtain ⟨rfl, hsz, hP, hK, hD0, hQ⟩ := hv
  have hx := B.exec
  have hb := B.bytes
  have hr := B.returns
  have hts : ∀ w ∈ zG, w.before _ s = true := fun w h => atoms_spec (ws := ws_X4_redeem) B.pre w (List.mem_cons_of_mem _ h)
  have hown : s.vm.findClass RX4 = some m.cls := findClass_of_methodNamed B.named
  have hlocks := B.notSynchronized
  subst hsz
  have hD := hD0.self (sz := s.heap.size)
  generalize hAe : va_A [(h0, .inr (5, [.ref ac, w0, b0, .int dd])), (ac, .inr (0, [.int 0, ed, .int 0]))] s.heap.size = A at hD hQ
  have hA : ∀ q : Nat, s.heap.size ≤ q → A q := fun q h => by rw [← hAe]; exact Or.inr h
  have hS : va_S A s.heap s.heap [] := va_S.rf
  have hSn : va_S (fun q => s.heap.size ≤ q) s.heap s.heap [] := va_S.rf
  have hP : va_P (dC, dI) zc [(h0, .inr (5, [.ref ac, w0, b0, .int dd])), (ac, .inr (0, [.int 0, ed, .int 0]))] s.heap := hP
  have hl := lv_entry ([.ref h0, .int a1, .int a2]) (n := 4) (Nat.le_of_ble_eq_true rfl)
  rw [lg_entry_eq]
  generalize (lg_sl ([.ref h0, .int a1, .int a2]) ++ List.replicate (4 - (lg_sl ([.ref h0, .int a1, .int a2])).length) Slot.unset).toArray = ls at hl ⊢
  have hl : lv_has ls 4 [(0, .ref h0), (1, .int a1), (2, .int a2)] := hl
  refine lv_aload_n hx hb dX4_redeem_0 rfl (lv_at hl 0 rfl) ?_
  refine lv_iload_n hx hb dX4_redeem_1 rfl (lv_at hl 1 rfl) ?_
  refine vx_callq (vx_runV (As := [.int a1]) (rest := []) ⟨hx, hb, hml, hown, hts⟩ (c_accountAt l hst dC dI s.heap.size t h0 ac w0 b0 dd a1 ed) (cwV 1 hts (zg_V kw_668 kw_670 kw_30 kw_64 kw_671) rfl rfl rfl (by decide +kernel) ⟨Nat.le_of_ble_eq_true rfl, Nat.le_of_ble_eq_true rfl⟩) ⟨zA_blind, va_recv hK hP (ci := 5) (q0 := 0) rfl rfl, zA_pre hP hD hS hK hQ hA [0, 1] rfl rfl (by decide) [] rfl⟩ rfl rfl hl.1 rfl (lv_room (Nat.le_of_ble_eq_true rfl)) dX4_redeem_2 ⟨zl_b rfl, zl_b rfl⟩) hSn (fun q _ h => h.elim) (fun q h => Nat.le_trans (Nat.le_refl _) h) (fun q _ h => Nat.le_trans (Nat.le_refl _) h) (fun E ce q9 u t9 H1 locs1 ht hvm hp9 hE hz1 hk1 hS1 hc1 hv1 hcl1 => ?_) (fun r u t9 H1 locs1 ht hvm hw hB hz1 hk1 hS1 => hw.elim)
  have hE : E = "java/lang/IndexOutOfBoundsException" := hE
  subst hE
  refine vx_widen (k := 1) (n := 6) (zl_b rfl) (zl_b rfl) ?_
  exact vx_out (fun x hx => (htab x hx).elim) hlocks hc1 hv1 hcl1 (fun t ht hW => ⟨(), trivial, rfl, zS_F hS1 ht⟩) hS1.2.2 (zl_b rfl) (zl_b rfl)
set_option maxHeartbeats 4000000 in
set_option maxRecDepth 100000 in
/-- owed: no such account -/
theorem c_owed (l : Launch) (hst : l.stackTraces = false) (dC : Nat → ClassId) (dI : Nat → Nat → Nat) (sz t : Nat) (h0 ac : Nat) (w0 b0 : Value) (dd : Int32) (ed : Value) (a1 : Int32) : vx_Met l yX4_owed ws_X4_owed ({ frames := 7, cells := 1, slots := 6, locals := 120 }) (zA dC dI [(h0, .inr (5, [.ref ac, w0, b0, .int dd])), (ac, .inr (0, [.int 0, ed, .int 0]))] [] sz t [.ref h0, .int a1]) (va_Ql (fun _ (_ : Unit) => False) (fun _ _ => True) (fun _ => False)) (vx_X (fun _ : Unit => True) (fun E _ _ => E = "java/lang/IndexOutOfBoundsException") (fun q => sz ≤ q)) 1 6 (fun q => sz ≤ q) := by
  refine vx_ofW (cc := cX4_owed) (maxL := 2) (ret := (some .long)) (by decide) rfl ?_
  intro p e s m args below meth c s₁ B hml htab hv
  obtain ⟨rfl, hsz, hP, hK, hD0, hQ⟩ := hv
  have hx := B.exec
  have hb := B.bytes
  have hr := B.returns
  have hts : ∀ w ∈ zG, w.before _ s = true := fun w h => atoms_spec (ws := ws_X4_owed) B.pre w (List.mem_cons_of_mem _ h)
  have hown : s.vm.findClass RX4 = some m.cls := findClass_of_methodNamed B.named
  have hlocks := B.notSynchronized
  subst hsz
  have hD := hD0.self (sz := s.heap.size)
  generalize hAe : va_A [(h0, .inr (5, [.ref ac, w0, b0, .int dd])), (ac, .inr (0, [.int 0, ed, .int 0]))] s.heap.size = A at hD hQ
  have hA : ∀ q : Nat, s.heap.size ≤ q → A q := fun q h => by rw [← hAe]; exact Or.inr h
  have hS : va_S A s.heap s.heap [] := va_S.rf
  have hSn : va_S (fun q => s.heap.size ≤ q) s.heap s.heap [] := va_S.rf
  have hP : va_P (dC, dI) zc [(h0, .inr (5, [.ref ac, w0, b0, .int dd])), (ac, .inr (0, [.int 0, ed, .int 0]))] s.heap := hP
  have hl := lv_entry ([.ref h0, .int a1]) (n := 2) (Nat.le_of_ble_eq_true rfl)
  rw [lg_entry_eq]
  generalize (lg_sl ([.ref h0, .int a1]) ++ List.replicate (2 - (lg_sl ([.ref h0, .int a1])).length) Slot.unset).toArray = ls at hl ⊢
  have hl : lv_has ls 2 [(0, .ref h0), (1, .int a1)] := hl
  refine lv_aload_n hx hb dX4_owed_0 rfl (lv_at hl 0 rfl) ?_
  refine lv_aload_n hx hb dX4_owed_1 rfl (lv_at hl 0 rfl) ?_
  refine lv_iload_n hx hb dX4_owed_2 rfl (lv_at hl 1 rfl) ?_
  refine vx_callq (vx_runV (As := [.int a1]) (rest := [.ref h0]) ⟨hx, hb, hml, hown, hts⟩ (c_accountAt l hst dC dI s.heap.size t h0 ac w0 b0 dd a1 ed) (cwV 1 hts (zg_V kw_668 kw_670 kw_30 kw_64 kw_671) rfl rfl rfl (by decide +kernel) ⟨Nat.le_of_ble_eq_true rfl, Nat.le_of_ble_eq_true rfl⟩) ⟨zA_blind, va_recv hK hP (ci := 5) (q0 := 0) rfl rfl, zA_pre hP hD hS hK hQ hA [0, 1] rfl rfl (by decide) [] rfl⟩ rfl rfl hl.1 rfl (lv_room (Nat.le_of_ble_eq_true rfl)) dX4_owed_3 ⟨zl_b rfl, zl_b rfl⟩) hSn (fun q _ h => h.elim) (fun q h => Nat.le_trans (Nat.le_refl _) h) (fun q _ h => Nat.le_trans (Nat.le_refl _) h) (fun E ce q9 u t9 H1 locs1 ht hvm hp9 hE hz1 hk1 hS1 hc1 hv1 hcl1 => ?_) (fun r u t9 H1 locs1 ht hvm hw hB hz1 hk1 hS1 => hw.elim)
  have hE : E = "java/lang/IndexOutOfBoundsException" := hE
  subst hE
  refine vx_widen (k := 1) (n := 6) (zl_b rfl) (zl_b rfl) ?_
  exact vx_out (fun x hx => (htab x hx).elim) hlocks hc1 hv1 hcl1 (fun t ht hW => ⟨(), trivial, rfl, zS_F hS1 ht⟩) hS1.2.2 (zl_b rfl) (zl_b rfl)
set_option maxHeartbeats 4000000 in
set_option maxRecDepth 100000 in
/-- bucket: no such account -/
theorem c_bucket (l : Launch) (hst : l.stackTraces = false) (dC : Nat → ClassId) (dI : Nat → Nat → Nat) (sz t : Nat) (h0 ac : Nat) (w0 b0 : Value) (dd : Int32) (ed : Value) (a1 a2 : Int32) : vx_Met l yX4_bucket ws_X4_bucket ({ frames := 7, cells := 1, slots := 6, locals := 120 }) (zA dC dI [(h0, .inr (5, [.ref ac, w0, b0, .int dd])), (ac, .inr (0, [.int 0, ed, .int 0]))] [] sz t [.ref h0, .int a1, .int a2]) (va_Ql (fun _ (_ : Unit) => False) (fun _ _ => True) (fun _ => False)) (vx_X (fun _ : Unit => True) (fun E _ _ => E = "java/lang/IndexOutOfBoundsException") (fun q => sz ≤ q)) 1 6 (fun q => sz ≤ q) := by
  refine vx_ofW (cc := cX4_bucket) (maxL := 5) (ret := (some .long)) (by decide) rfl ?_
  intro p e s m args below meth c s₁ B hml htab hv
  obtain ⟨rfl, hsz, hP, hK, hD0, hQ⟩ := hv
  have hx := B.exec
  have hb := B.bytes
  have hr := B.returns
  have hts : ∀ w ∈ zG, w.before _ s = true := fun w h => atoms_spec (ws := ws_X4_bucket) B.pre w (List.mem_cons_of_mem _ h)
  have hown : s.vm.findClass RX4 = some m.cls := findClass_of_methodNamed B.named
  have hlocks := B.notSynchronized
  subst hsz
  have hD := hD0.self (sz := s.heap.size)
  generalize hAe : va_A [(h0, .inr (5, [.ref ac, w0, b0, .int dd])), (ac, .inr (0, [.int 0, ed, .int 0]))] s.heap.size = A at hD hQ
  have hA : ∀ q : Nat, s.heap.size ≤ q → A q := fun q h => by rw [← hAe]; exact Or.inr h
  have hS : va_S A s.heap s.heap [] := va_S.rf
  have hSn : va_S (fun q => s.heap.size ≤ q) s.heap s.heap [] := va_S.rf
  have hP : va_P (dC, dI) zc [(h0, .inr (5, [.ref ac, w0, b0, .int dd])), (ac, .inr (0, [.int 0, ed, .int 0]))] s.heap := hP
  have hl := lv_entry ([.ref h0, .int a1, .int a2]) (n := 5) (Nat.le_of_ble_eq_true rfl)
  rw [lg_entry_eq]
  generalize (lg_sl ([.ref h0, .int a1, .int a2]) ++ List.replicate (5 - (lg_sl ([.ref h0, .int a1, .int a2])).length) Slot.unset).toArray = ls at hl ⊢
  have hl : lv_has ls 5 [(0, .ref h0), (1, .int a1), (2, .int a2)] := hl
  refine lv_aload_n hx hb dX4_bucket_0 rfl (lv_at hl 0 rfl) ?_
  refine lv_iload_n hx hb dX4_bucket_1 rfl (lv_at hl 1 rfl) ?_
  refine vx_callq (vx_runV (As := [.int a1]) (rest := []) ⟨hx, hb, hml, hown, hts⟩ (c_accountAt l hst dC dI s.heap.size t h0 ac w0 b0 dd a1 ed) (cwV 1 hts (zg_V kw_668 kw_670 kw_30 kw_64 kw_671) rfl rfl rfl (by decide +kernel) ⟨Nat.le_of_ble_eq_true rfl, Nat.le_of_ble_eq_true rfl⟩) ⟨zA_blind, va_recv hK hP (ci := 5) (q0 := 0) rfl rfl, zA_pre hP hD hS hK hQ hA [0, 1] rfl rfl (by decide) [] rfl⟩ rfl rfl hl.1 rfl (lv_room (Nat.le_of_ble_eq_true rfl)) dX4_bucket_2 ⟨zl_b rfl, zl_b rfl⟩) hSn (fun q _ h => h.elim) (fun q h => Nat.le_trans (Nat.le_refl _) h) (fun q _ h => Nat.le_trans (Nat.le_refl _) h) (fun E ce q9 u t9 H1 locs1 ht hvm hp9 hE hz1 hk1 hS1 hc1 hv1 hcl1 => ?_) (fun r u t9 H1 locs1 ht hvm hw hB hz1 hk1 hS1 => hw.elim)
  have hE : E = "java/lang/IndexOutOfBoundsException" := hE
  subst hE
  refine vx_widen (k := 1) (n := 6) (zl_b rfl) (zl_b rfl) ?_
  exact vx_out (fun x hx => (htab x hx).elim) hlocks hc1 hv1 hcl1 (fun t ht hW => ⟨(), trivial, rfl, zS_F hS1 ht⟩) hS1.2.2 (zl_b rfl) (zl_b rfl)
set_option maxHeartbeats 4000000 in
set_option maxRecDepth 100000 in
/-- credit: no such account -/
theorem c_credit (l : Launch) (hst : l.stackTraces = false) (dC : Nat → ClassId) (dI : Nat → Nat → Nat) (sz t : Nat) (h0 ac : Nat) (w0 b0 : Value) (dd : Int32) (ed : Value) (a1 : Int32) : vx_Met l yX4_credit ws_X4_credit ({ frames := 7, cells := 1, slots := 6, locals := 120 }) (zA dC dI [(h0, .inr (5, [.ref ac, w0, b0, .int dd])), (ac, .inr (0, [.int 0, ed, .int 0]))] [] sz t [.ref h0, .int a1]) (va_Ql (fun _ (_ : Unit) => False) (fun _ _ => True) (fun _ => False)) (vx_X (fun _ : Unit => True) (fun E _ _ => E = "java/lang/IndexOutOfBoundsException") (fun q => sz ≤ q)) 1 6 (fun q => sz ≤ q) := by
  refine vx_ofW (cc := cX4_credit) (maxL := 2) (ret := (some .long)) (by decide) rfl ?_
  intro p e s m args below meth c s₁ B hml htab hv
  obtain ⟨rfl, hsz, hP, hK, hD0, hQ⟩ := hv
  have hx := B.exec
  have hb := B.bytes
  have hr := B.returns
  have hts : ∀ w ∈ zG, w.before _ s = true := fun w h => atoms_spec (ws := ws_X4_credit) B.pre w (List.mem_cons_of_mem _ h)
  have hown : s.vm.findClass RX4 = some m.cls := findClass_of_methodNamed B.named
  have hlocks := B.notSynchronized
  subst hsz
  have hD := hD0.self (sz := s.heap.size)
  generalize hAe : va_A [(h0, .inr (5, [.ref ac, w0, b0, .int dd])), (ac, .inr (0, [.int 0, ed, .int 0]))] s.heap.size = A at hD hQ
  have hA : ∀ q : Nat, s.heap.size ≤ q → A q := fun q h => by rw [← hAe]; exact Or.inr h
  have hS : va_S A s.heap s.heap [] := va_S.rf
  have hSn : va_S (fun q => s.heap.size ≤ q) s.heap s.heap [] := va_S.rf
  have hP : va_P (dC, dI) zc [(h0, .inr (5, [.ref ac, w0, b0, .int dd])), (ac, .inr (0, [.int 0, ed, .int 0]))] s.heap := hP
  have hl := lv_entry ([.ref h0, .int a1]) (n := 2) (Nat.le_of_ble_eq_true rfl)
  rw [lg_entry_eq]
  generalize (lg_sl ([.ref h0, .int a1]) ++ List.replicate (2 - (lg_sl ([.ref h0, .int a1])).length) Slot.unset).toArray = ls at hl ⊢
  have hl : lv_has ls 2 [(0, .ref h0), (1, .int a1)] := hl
  refine lv_aload_n hx hb dX4_credit_0 rfl (lv_at hl 0 rfl) ?_
  refine lv_aload_n hx hb dX4_credit_1 rfl (lv_at hl 0 rfl) ?_
  refine lv_iload_n hx hb dX4_credit_2 rfl (lv_at hl 1 rfl) ?_
  refine vx_callq (vx_runV (As := [.int a1]) (rest := [.ref h0]) ⟨hx, hb, hml, hown, hts⟩ (c_accountAt l hst dC dI s.heap.size t h0 ac w0 b0 dd a1 ed) (cwV 1 hts (zg_V kw_668 kw_670 kw_30 kw_64 kw_671) rfl rfl rfl (by decide +kernel) ⟨Nat.le_of_ble_eq_true rfl, Nat.le_of_ble_eq_true rfl⟩) ⟨zA_blind, va_recv hK hP (ci := 5) (q0 := 0) rfl rfl, zA_pre hP hD hS hK hQ hA [0, 1] rfl rfl (by decide) [] rfl⟩ rfl rfl hl.1 rfl (lv_room (Nat.le_of_ble_eq_true rfl)) dX4_credit_3 ⟨zl_b rfl, zl_b rfl⟩) hSn (fun q _ h => h.elim) (fun q h => Nat.le_trans (Nat.le_refl _) h) (fun q _ h => Nat.le_trans (Nat.le_refl _) h) (fun E ce q9 u t9 H1 locs1 ht hvm hp9 hE hz1 hk1 hS1 hc1 hv1 hcl1 => ?_) (fun r u t9 H1 locs1 ht hvm hw hB hz1 hk1 hS1 => hw.elim)
  have hE : E = "java/lang/IndexOutOfBoundsException" := hE
  subst hE
  refine vx_widen (k := 1) (n := 6) (zl_b rfl) (zl_b rfl) ?_
  exact vx_out (fun x hx => (htab x hx).elim) hlocks hc1 hv1 hcl1 (fun t ht hW => ⟨(), trivial, rfl, zS_F hS1 ht⟩) hS1.2.2 (zl_b rfl) (zl_b rfl)
set_option maxHeartbeats 4000000 in
set_option maxRecDepth 100000 in
/-- statement: no such account -/
theorem c_statement (l : Launch) (hst : l.stackTraces = false) (dC : Nat → ClassId) (dI : Nat → Nat → Nat) (sz t : Nat) (h0 ac : Nat) (w0 b0 : Value) (dd : Int32) (ed : Value) (a1 a2 : Int32) : vx_Met l yX4_statement ws_X4_statement ({ frames := 7, cells := 1, slots := 6, locals := 120 }) (zA dC dI [(h0, .inr (5, [.ref ac, w0, b0, .int dd])), (ac, .inr (0, [.int 0, ed, .int 0]))] [] sz t [.ref h0, .int a1, .int a2]) (va_Ql (fun _ (_ : Unit) => False) (fun _ _ => True) (fun _ => False)) (vx_X (fun _ : Unit => True) (fun E _ _ => E = "java/lang/IndexOutOfBoundsException") (fun q => sz ≤ q)) 1 6 (fun q => sz ≤ q) := by
  refine vx_ofW (cc := cX4_statement) (maxL := 3) (ret := (some .long)) (by decide) rfl ?_
  intro p e s m args below meth c s₁ B hml htab hv
  obtain ⟨rfl, hsz, hP, hK, hD0, hQ⟩ := hv
  have hx := B.exec
  have hb := B.bytes
  have hr := B.returns
  have hts : ∀ w ∈ zG, w.before _ s = true := fun w h => atoms_spec (ws := ws_X4_statement) B.pre w (List.mem_cons_of_mem _ h)
  have hown : s.vm.findClass RX4 = some m.cls := findClass_of_methodNamed B.named
  have hlocks := B.notSynchronized
  subst hsz
  have hD := hD0.self (sz := s.heap.size)
  generalize hAe : va_A [(h0, .inr (5, [.ref ac, w0, b0, .int dd])), (ac, .inr (0, [.int 0, ed, .int 0]))] s.heap.size = A at hD hQ
  have hA : ∀ q : Nat, s.heap.size ≤ q → A q := fun q h => by rw [← hAe]; exact Or.inr h
  have hS : va_S A s.heap s.heap [] := va_S.rf
  have hSn : va_S (fun q => s.heap.size ≤ q) s.heap s.heap [] := va_S.rf
  have hP : va_P (dC, dI) zc [(h0, .inr (5, [.ref ac, w0, b0, .int dd])), (ac, .inr (0, [.int 0, ed, .int 0]))] s.heap := hP
  have hl := lv_entry ([.ref h0, .int a1, .int a2]) (n := 3) (Nat.le_of_ble_eq_true rfl)
  rw [lg_entry_eq]
  generalize (lg_sl ([.ref h0, .int a1, .int a2]) ++ List.replicate (3 - (lg_sl ([.ref h0, .int a1, .int a2])).length) Slot.unset).toArray = ls at hl ⊢
  have hl : lv_has ls 3 [(0, .ref h0), (1, .int a1), (2, .int a2)] := hl
  refine lv_aload_n hx hb dX4_statement_0 rfl (lv_at hl 0 rfl) ?_
  refine lv_aload_n hx hb dX4_statement_1 rfl (lv_at hl 0 rfl) ?_
  refine lv_iload_n hx hb dX4_statement_2 rfl (lv_at hl 1 rfl) ?_
  refine vx_callq (vx_runV (As := [.int a1]) (rest := [.ref h0]) ⟨hx, hb, hml, hown, hts⟩ (c_accountAt l hst dC dI s.heap.size t h0 ac w0 b0 dd a1 ed) (cwV 1 hts (zg_V kw_668 kw_670 kw_30 kw_64 kw_671) rfl rfl rfl (by decide +kernel) ⟨Nat.le_of_ble_eq_true rfl, Nat.le_of_ble_eq_true rfl⟩) ⟨zA_blind, va_recv hK hP (ci := 5) (q0 := 0) rfl rfl, zA_pre hP hD hS hK hQ hA [0, 1] rfl rfl (by decide) [] rfl⟩ rfl rfl hl.1 rfl (lv_room (Nat.le_of_ble_eq_true rfl)) dX4_statement_3 ⟨zl_b rfl, zl_b rfl⟩) hSn (fun q _ h => h.elim) (fun q h => Nat.le_trans (Nat.le_refl _) h) (fun q _ h => Nat.le_trans (Nat.le_refl _) h) (fun E ce q9 u t9 H1 locs1 ht hvm hp9 hE hz1 hk1 hS1 hc1 hv1 hcl1 => ?_) (fun r u t9 H1 locs1 ht hvm hw hB hz1 hk1 hS1 => hw.elim)
  have hE : E = "java/lang/IndexOutOfBoundsException" := hE
  subst hE
  refine vx_widen (k := 1) (n := 6) (zl_b rfl) (zl_b rfl) ?_
  exact vx_out (fun x hx => (htab x hx).elim) hlocks hc1 hv1 hcl1 (fun t ht hW => ⟨(), trivial, rfl, zS_F hS1 ht⟩) hS1.2.2 (zl_b rfl) (zl_b rfl)
set_option maxHeartbeats 4000000 in
set_option maxRecDepth 100000 in
/-- told: no such account -/
theorem c_told (l : Launch) (hst : l.stackTraces = false) (dC : Nat → ClassId) (dI : Nat → Nat → Nat) (sz t : Nat) (h0 ac : Nat) (w0 b0 : Value) (dd : Int32) (ed : Value) (a1 a2 : Int32) : vx_Met l yX4_told ws_X4_told ({ frames := 7, cells := 1, slots := 6, locals := 120 }) (zA dC dI [(h0, .inr (5, [.ref ac, w0, b0, .int dd])), (ac, .inr (0, [.int 0, ed, .int 0]))] [] sz t [.ref h0, .int a1, .int a2]) (va_Ql (fun _ (_ : Unit) => False) (fun _ _ => True) (fun _ => False)) (vx_X (fun _ : Unit => True) (fun E _ _ => E = "java/lang/IndexOutOfBoundsException") (fun q => sz ≤ q)) 1 6 (fun q => sz ≤ q) := by
  refine vx_ofW (cc := cX4_told) (maxL := 3) (ret := (some .long)) (by decide) rfl ?_
  intro p e s m args below meth c s₁ B hml htab hv
  obtain ⟨rfl, hsz, hP, hK, hD0, hQ⟩ := hv
  have hx := B.exec
  have hb := B.bytes
  have hr := B.returns
  have hts : ∀ w ∈ zG, w.before _ s = true := fun w h => atoms_spec (ws := ws_X4_told) B.pre w (List.mem_cons_of_mem _ h)
  have hown : s.vm.findClass RX4 = some m.cls := findClass_of_methodNamed B.named
  have hlocks := B.notSynchronized
  subst hsz
  have hD := hD0.self (sz := s.heap.size)
  generalize hAe : va_A [(h0, .inr (5, [.ref ac, w0, b0, .int dd])), (ac, .inr (0, [.int 0, ed, .int 0]))] s.heap.size = A at hD hQ
  have hA : ∀ q : Nat, s.heap.size ≤ q → A q := fun q h => by rw [← hAe]; exact Or.inr h
  have hS : va_S A s.heap s.heap [] := va_S.rf
  have hSn : va_S (fun q => s.heap.size ≤ q) s.heap s.heap [] := va_S.rf
  have hP : va_P (dC, dI) zc [(h0, .inr (5, [.ref ac, w0, b0, .int dd])), (ac, .inr (0, [.int 0, ed, .int 0]))] s.heap := hP
  have hl := lv_entry ([.ref h0, .int a1, .int a2]) (n := 3) (Nat.le_of_ble_eq_true rfl)
  rw [lg_entry_eq]
  generalize (lg_sl ([.ref h0, .int a1, .int a2]) ++ List.replicate (3 - (lg_sl ([.ref h0, .int a1, .int a2])).length) Slot.unset).toArray = ls at hl ⊢
  have hl : lv_has ls 3 [(0, .ref h0), (1, .int a1), (2, .int a2)] := hl
  refine lv_aload_n hx hb dX4_told_0 rfl (lv_at hl 0 rfl) ?_
  refine lv_aload_n hx hb dX4_told_1 rfl (lv_at hl 0 rfl) ?_
  refine lv_iload_n hx hb dX4_told_2 rfl (lv_at hl 1 rfl) ?_
  refine vx_callq (vx_runV (As := [.int a1]) (rest := [.ref h0]) ⟨hx, hb, hml, hown, hts⟩ (c_accountAt l hst dC dI s.heap.size t h0 ac w0 b0 dd a1 ed) (cwV 1 hts (zg_V kw_668 kw_670 kw_30 kw_64 kw_671) rfl rfl rfl (by decide +kernel) ⟨Nat.le_of_ble_eq_true rfl, Nat.le_of_ble_eq_true rfl⟩) ⟨zA_blind, va_recv hK hP (ci := 5) (q0 := 0) rfl rfl, zA_pre hP hD hS hK hQ hA [0, 1] rfl rfl (by decide) [] rfl⟩ rfl rfl hl.1 rfl (lv_room (Nat.le_of_ble_eq_true rfl)) dX4_told_3 ⟨zl_b rfl, zl_b rfl⟩) hSn (fun q _ h => h.elim) (fun q h => Nat.le_trans (Nat.le_refl _) h) (fun q _ h => Nat.le_trans (Nat.le_refl _) h) (fun E ce q9 u t9 H1 locs1 ht hvm hp9 hE hz1 hk1 hS1 hc1 hv1 hcl1 => ?_) (fun r u t9 H1 locs1 ht hvm hw hB hz1 hk1 hS1 => hw.elim)
  have hE : E = "java/lang/IndexOutOfBoundsException" := hE
  subst hE
  refine vx_widen (k := 1) (n := 6) (zl_b rfl) (zl_b rfl) ?_
  exact vx_out (fun x hx => (htab x hx).elim) hlocks hc1 hv1 hcl1 (fun t ht hW => ⟨(), trivial, rfl, zS_F hS1 ht⟩) hS1.2.2 (zl_b rfl) (zl_b rfl)
set_option maxHeartbeats 4000000 in
set_option maxRecDepth 100000 in
/-- difference: no such account -/
theorem c_difference (l : Launch) (hst : l.stackTraces = false) (dC : Nat → ClassId) (dI : Nat → Nat → Nat) (sz t : Nat) (h0 ac : Nat) (w0 b0 : Value) (dd : Int32) (ed : Value) (a1 a2 : Int32) : vx_Met l yX4_difference ws_X4_difference ({ frames := 7, cells := 1, slots := 6, locals := 120 }) (zA dC dI [(h0, .inr (5, [.ref ac, w0, b0, .int dd])), (ac, .inr (0, [.int 0, ed, .int 0]))] [] sz t [.ref h0, .int a1, .int a2]) (va_Ql (fun _ (_ : Unit) => False) (fun _ _ => True) (fun _ => False)) (vx_X (fun _ : Unit => True) (fun E _ _ => E = "java/lang/IndexOutOfBoundsException") (fun q => sz ≤ q)) 1 6 (fun q => sz ≤ q) := by
  refine vx_ofW (cc := cX4_difference) (maxL := 6) (ret := (some .long)) (by decide) rfl ?_
  intro p e s m args below meth c s₁ B hml htab hv
  obtain ⟨rfl, hsz, hP, hK, hD0, hQ⟩ := hv
  have hx := B.exec
  have hb := B.bytes
  have hr := B.returns
  have hts : ∀ w ∈ zG, w.before _ s = true := fun w h => atoms_spec (ws := ws_X4_difference) B.pre w (List.mem_cons_of_mem _ h)
  have hown : s.vm.findClass RX4 = some m.cls := findClass_of_methodNamed B.named
  have hlocks := B.notSynchronized
  subst hsz
  have hD := hD0.self (sz := s.heap.size)
  generalize hAe : va_A [(h0, .inr (5, [.ref ac, w0, b0, .int dd])), (ac, .inr (0, [.int 0, ed, .int 0]))] s.heap.size = A at hD hQ
  have hA : ∀ q : Nat, s.heap.size ≤ q → A q := fun q h => by rw [← hAe]; exact Or.inr h
  have hS : va_S A s.heap s.heap [] := va_S.rf
  have hSn : va_S (fun q => s.heap.size ≤ q) s.heap s.heap [] := va_S.rf
  have hP : va_P (dC, dI) zc [(h0, .inr (5, [.ref ac, w0, b0, .int dd])), (ac, .inr (0, [.int 0, ed, .int 0]))] s.heap := hP
  have hl := lv_entry ([.ref h0, .int a1, .int a2]) (n := 6) (Nat.le_of_ble_eq_true rfl)
  rw [lg_entry_eq]
  generalize (lg_sl ([.ref h0, .int a1, .int a2]) ++ List.replicate (6 - (lg_sl ([.ref h0, .int a1, .int a2])).length) Slot.unset).toArray = ls at hl ⊢
  have hl : lv_has ls 6 [(0, .ref h0), (1, .int a1), (2, .int a2)] := hl
  refine lv_aload_n hx hb dX4_difference_0 rfl (lv_at hl 0 rfl) ?_
  refine lv_iload_n hx hb dX4_difference_1 rfl (lv_at hl 1 rfl) ?_
  refine vx_callq (vx_runV (As := [.int a1]) (rest := []) ⟨hx, hb, hml, hown, hts⟩ (c_accountAt l hst dC dI s.heap.size t h0 ac w0 b0 dd a1 ed) (cwV 1 hts (zg_V kw_668 kw_670 kw_30 kw_64 kw_671) rfl rfl rfl (by decide +kernel) ⟨Nat.le_of_ble_eq_true rfl, Nat.le_of_ble_eq_true rfl⟩) ⟨zA_blind, va_recv hK hP (ci := 5) (q0 := 0) rfl rfl, zA_pre hP hD hS hK hQ hA [0, 1] rfl rfl (by decide) [] rfl⟩ rfl rfl hl.1 rfl (lv_room (Nat.le_of_ble_eq_true rfl)) dX4_difference_2 ⟨zl_b rfl, zl_b rfl⟩) hSn (fun q _ h => h.elim) (fun q h => Nat.le_trans (Nat.le_refl _) h) (fun q _ h => Nat.le_trans (Nat.le_refl _) h) (fun E ce q9 u t9 H1 locs1 ht hvm hp9 hE hz1 hk1 hS1 hc1 hv1 hcl1 => ?_) (fun r u t9 H1 locs1 ht hvm hw hB hz1 hk1 hS1 => hw.elim)
  have hE : E = "java/lang/IndexOutOfBoundsException" := hE
  subst hE
  refine vx_widen (k := 1) (n := 6) (zl_b rfl) (zl_b rfl) ?_
  exact vx_out (fun x hx => (htab x hx).elim) hlocks hc1 hv1 hcl1 (fun t ht hW => ⟨(), trivial, rfl, zS_F hS1 ht⟩) hS1.2.2 (zl_b rfl) (zl_b rfl)
set_option maxHeartbeats 4000000 in
set_option maxRecDepth 100000 in
/-- least: no such account -/
theorem c_least (l : Launch) (hst : l.stackTraces = false) (dC : Nat → ClassId) (dI : Nat → Nat → Nat) (sz t : Nat) (h0 ac : Nat) (w0 b0 : Value) (dd : Int32) (ed : Value) (a1 a2 : Int32) : vx_Met l yX4_least ws_X4_least ({ frames := 7, cells := 1, slots := 6, locals := 120 }) (zA dC dI [(h0, .inr (5, [.ref ac, w0, b0, .int dd])), (ac, .inr (0, [.int 0, ed, .int 0]))] [] sz t [.ref h0, .int a1, .int a2]) (va_Ql (fun _ (_ : Unit) => False) (fun _ _ => True) (fun _ => False)) (vx_X (fun _ : Unit => True) (fun E _ _ => E = "java/lang/IndexOutOfBoundsException") (fun q => sz ≤ q)) 1 6 (fun q => sz ≤ q) := by
  refine vx_ofW (cc := cX4_least) (maxL := 3) (ret := (some .long)) (by decide) rfl ?_
  intro p e s m args below meth c s₁ B hml htab hv
  obtain ⟨rfl, hsz, hP, hK, hD0, hQ⟩ := hv
  have hx := B.exec
  have hb := B.bytes
  have hr := B.returns
  have hts : ∀ w ∈ zG, w.before _ s = true := fun w h => atoms_spec (ws := ws_X4_least) B.pre w (List.mem_cons_of_mem _ h)
  have hown : s.vm.findClass RX4 = some m.cls := findClass_of_methodNamed B.named
  have hlocks := B.notSynchronized
  subst hsz
  have hD := hD0.self (sz := s.heap.size)
  generalize hAe : va_A [(h0, .inr (5, [.ref ac, w0, b0, .int dd])), (ac, .inr (0, [.int 0, ed, .int 0]))] s.heap.size = A at hD hQ
  have hA : ∀ q : Nat, s.heap.size ≤ q → A q := fun q h => by rw [← hAe]; exact Or.inr h
  have hS : va_S A s.heap s.heap [] := va_S.rf
  have hSn : va_S (fun q => s.heap.size ≤ q) s.heap s.heap [] := va_S.rf
  have hP : va_P (dC, dI) zc [(h0, .inr (5, [.ref ac, w0, b0, .int dd])), (ac, .inr (0, [.int 0, ed, .int 0]))] s.heap := hP
  have hl := lv_entry ([.ref h0, .int a1, .int a2]) (n := 3) (Nat.le_of_ble_eq_true rfl)
  rw [lg_entry_eq]
  generalize (lg_sl ([.ref h0, .int a1, .int a2]) ++ List.replicate (3 - (lg_sl ([.ref h0, .int a1, .int a2])).length) Slot.unset).toArray = ls at hl ⊢
  have hl : lv_has ls 3 [(0, .ref h0), (1, .int a1), (2, .int a2)] := hl
  refine lv_aload_n hx hb dX4_least_0 rfl (lv_at hl 0 rfl) ?_
  refine lv_aload_n hx hb dX4_least_1 rfl (lv_at hl 0 rfl) ?_
  refine lv_iload_n hx hb dX4_least_2 rfl (lv_at hl 1 rfl) ?_
  refine vx_callq (vx_runV (As := [.int a1]) (rest := [.ref h0]) ⟨hx, hb, hml, hown, hts⟩ (c_accountAt l hst dC dI s.heap.size t h0 ac w0 b0 dd a1 ed) (cwV 1 hts (zg_V kw_668 kw_670 kw_30 kw_64 kw_671) rfl rfl rfl (by decide +kernel) ⟨Nat.le_of_ble_eq_true rfl, Nat.le_of_ble_eq_true rfl⟩) ⟨zA_blind, va_recv hK hP (ci := 5) (q0 := 0) rfl rfl, zA_pre hP hD hS hK hQ hA [0, 1] rfl rfl (by decide) [] rfl⟩ rfl rfl hl.1 rfl (lv_room (Nat.le_of_ble_eq_true rfl)) dX4_least_3 ⟨zl_b rfl, zl_b rfl⟩) hSn (fun q _ h => h.elim) (fun q h => Nat.le_trans (Nat.le_refl _) h) (fun q _ h => Nat.le_trans (Nat.le_refl _) h) (fun E ce q9 u t9 H1 locs1 ht hvm hp9 hE hz1 hk1 hS1 hc1 hv1 hcl1 => ?_) (fun r u t9 H1 locs1 ht hvm hw hB hz1 hk1 hS1 => hw.elim)
  have hE : E = "java/lang/IndexOutOfBoundsException" := hE
  subst hE
  refine vx_widen (k := 1) (n := 6) (zl_b rfl) (zl_b rfl) ?_
  exact vx_out (fun x hx => (htab x hx).elim) hlocks hc1 hv1 hcl1 (fun t ht hW => ⟨(), trivial, rfl, zS_F hS1 ht⟩) hS1.2.2 (zl_b rfl) (zl_b rfl)
set_option maxHeartbeats 4000000 in
set_option maxRecDepth 100000 in
/-- interest: no such account -/
theorem c_interest (l : Launch) (hst : l.stackTraces = false) (dC : Nat → ClassId) (dI : Nat → Nat → Nat) (sz t : Nat) (h0 ac : Nat) (w0 b0 : Value) (dd : Int32) (ed : Value) (a1 a2 : Int32) : vx_Met l yX4_interest ws_X4_interest ({ frames := 7, cells := 1, slots := 6, locals := 120 }) (zA dC dI [(h0, .inr (5, [.ref ac, w0, b0, .int dd])), (ac, .inr (0, [.int 0, ed, .int 0]))] [] sz t [.ref h0, .int a1, .int a2]) (va_Ql (fun _ (_ : Unit) => False) (fun _ _ => True) (fun _ => False)) (vx_X (fun _ : Unit => True) (fun E _ _ => E = "java/lang/IndexOutOfBoundsException") (fun q => sz ≤ q)) 1 6 (fun q => sz ≤ q) := by
  refine vx_ofW (cc := cX4_interest) (maxL := 3) (ret := (some .long)) (by decide) rfl ?_
  intro p e s m args below meth c s₁ B hml htab hv
  obtain ⟨rfl, hsz, hP, hK, hD0, hQ⟩ := hv
  have hx := B.exec
  have hb := B.bytes
  have hr := B.returns
  have hts : ∀ w ∈ zG, w.before _ s = true := fun w h => atoms_spec (ws := ws_X4_interest) B.pre w (List.mem_cons_of_mem _ h)
  have hown : s.vm.findClass RX4 = some m.cls := findClass_of_methodNamed B.named
  have hlocks := B.notSynchronized
  subst hsz
  have hD := hD0.self (sz := s.heap.size)
  generalize hAe : va_A [(h0, .inr (5, [.ref ac, w0, b0, .int dd])), (ac, .inr (0, [.int 0, ed, .int 0]))] s.heap.size = A at hD hQ
  have hA : ∀ q : Nat, s.heap.size ≤ q → A q := fun q h => by rw [← hAe]; exact Or.inr h
  have hS : va_S A s.heap s.heap [] := va_S.rf
  have hSn : va_S (fun q => s.heap.size ≤ q) s.heap s.heap [] := va_S.rf
  have hP : va_P (dC, dI) zc [(h0, .inr (5, [.ref ac, w0, b0, .int dd])), (ac, .inr (0, [.int 0, ed, .int 0]))] s.heap := hP
  have hl := lv_entry ([.ref h0, .int a1, .int a2]) (n := 3) (Nat.le_of_ble_eq_true rfl)
  rw [lg_entry_eq]
  generalize (lg_sl ([.ref h0, .int a1, .int a2]) ++ List.replicate (3 - (lg_sl ([.ref h0, .int a1, .int a2])).length) Slot.unset).toArray = ls at hl ⊢
  have hl : lv_has ls 3 [(0, .ref h0), (1, .int a1), (2, .int a2)] := hl
  refine lv_aload_n hx hb dX4_interest_0 rfl (lv_at hl 0 rfl) ?_
  refine lv_aload_n hx hb dX4_interest_1 rfl (lv_at hl 0 rfl) ?_
  refine lv_iload_n hx hb dX4_interest_2 rfl (lv_at hl 1 rfl) ?_
  refine vx_callq (vx_runV (As := [.int a1]) (rest := [.ref h0]) ⟨hx, hb, hml, hown, hts⟩ (c_accountAt l hst dC dI s.heap.size t h0 ac w0 b0 dd a1 ed) (cwV 1 hts (zg_V kw_668 kw_670 kw_30 kw_64 kw_671) rfl rfl rfl (by decide +kernel) ⟨Nat.le_of_ble_eq_true rfl, Nat.le_of_ble_eq_true rfl⟩) ⟨zA_blind, va_recv hK hP (ci := 5) (q0 := 0) rfl rfl, zA_pre hP hD hS hK hQ hA [0, 1] rfl rfl (by decide) [] rfl⟩ rfl rfl hl.1 rfl (lv_room (Nat.le_of_ble_eq_true rfl)) dX4_interest_3 ⟨zl_b rfl, zl_b rfl⟩) hSn (fun q _ h => h.elim) (fun q h => Nat.le_trans (Nat.le_refl _) h) (fun q _ h => Nat.le_trans (Nat.le_refl _) h) (fun E ce q9 u t9 H1 locs1 ht hvm hp9 hE hz1 hk1 hS1 hc1 hv1 hcl1 => ?_) (fun r u t9 H1 locs1 ht hvm hw hB hz1 hk1 hS1 => hw.elim)
  have hE : E = "java/lang/IndexOutOfBoundsException" := hE
  subst hE
  refine vx_widen (k := 1) (n := 6) (zl_b rfl) (zl_b rfl) ?_
  exact vx_out (fun x hx => (htab x hx).elim) hlocks hc1 hv1 hcl1 (fun t ht hW => ⟨(), trivial, rfl, zS_F hS1 ht⟩) hS1.2.2 (zl_b rfl) (zl_b rfl)
set_option maxHeartbeats 4000000 in
set_option maxRecDepth 100000 in
/-- hadGrace: no such account -/
theorem c_hadGrace (l : Launch) (hst : l.stackTraces = false) (dC : Nat → ClassId) (dI : Nat → Nat → Nat) (sz t : Nat) (h0 ac : Nat) (w0 b0 : Value) (dd : Int32) (ed : Value) (a1 a2 : Int32) : vx_Met l yX4_hadGrace ws_X4_hadGrace ({ frames := 7, cells := 1, slots := 6, locals := 120 }) (zA dC dI [(h0, .inr (5, [.ref ac, w0, b0, .int dd])), (ac, .inr (0, [.int 0, ed, .int 0]))] [] sz t [.ref h0, .int a1, .int a2]) (va_Qi (fun _ (_ : Unit) => False) (fun _ _ => True) (fun _ => False)) (vx_X (fun _ : Unit => True) (fun E _ _ => E = "java/lang/IndexOutOfBoundsException") (fun q => sz ≤ q)) 1 6 (fun q => sz ≤ q) := by
  refine vx_ofW (cc := cX4_hadGrace) (maxL := 3) (ret := (some .boolean)) (by decide) rfl ?_
  intro p e s m args below meth c s₁ B hml htab hv
  obtain ⟨rfl, hsz, hP, hK, hD0, hQ⟩ := hv
  have hx := B.exec
  have hb := B.bytes
  have hr := B.returns
  have hts : ∀ w ∈ zG, w.before _ s = true := fun w h => atoms_spec (ws := ws_X4_hadGrace) B.pre w (List.mem_cons_of_mem _ h)
  have hown : s.vm.findClass RX4 = some m.cls := findClass_of_methodNamed B.named
  have hlocks := B.notSynchronized
  subst hsz
  have hD := hD0.self (sz := s.heap.size)
  generalize hAe : va_A [(h0, .inr (5, [.ref ac, w0, b0, .int dd])), (ac, .inr (0, [.int 0, ed, .int 0]))] s.heap.size = A at hD hQ
  have hA : ∀ q : Nat, s.heap.size ≤ q → A q := fun q h => by rw [← hAe]; exact Or.inr h
  have hS : va_S A s.heap s.heap [] := va_S.rf
  have hSn : va_S (fun q => s.heap.size ≤ q) s.heap s.heap [] := va_S.rf
  have hP : va_P (dC, dI) zc [(h0, .inr (5, [.ref ac, w0, b0, .int dd])), (ac, .inr (0, [.int 0, ed, .int 0]))] s.heap := hP
  have hl := lv_entry ([.ref h0, .int a1, .int a2]) (n := 3) (Nat.le_of_ble_eq_true rfl)
  rw [lg_entry_eq]
  generalize (lg_sl ([.ref h0, .int a1, .int a2]) ++ List.replicate (3 - (lg_sl ([.ref h0, .int a1, .int a2])).length) Slot.unset).toArray = ls at hl ⊢
  have hl : lv_has ls 3 [(0, .ref h0), (1, .int a1), (2, .int a2)] := hl
  refine lv_aload_n hx hb dX4_hadGrace_0 rfl (lv_at hl 0 rfl) ?_
  refine lv_aload_n hx hb dX4_hadGrace_1 rfl (lv_at hl 0 rfl) ?_
  refine lv_iload_n hx hb dX4_hadGrace_2 rfl (lv_at hl 1 rfl) ?_
  refine vx_callq (vx_runV (As := [.int a1]) (rest := [.ref h0]) ⟨hx, hb, hml, hown, hts⟩ (c_accountAt l hst dC dI s.heap.size t h0 ac w0 b0 dd a1 ed) (cwV 1 hts (zg_V kw_668 kw_670 kw_30 kw_64 kw_671) rfl rfl rfl (by decide +kernel) ⟨Nat.le_of_ble_eq_true rfl, Nat.le_of_ble_eq_true rfl⟩) ⟨zA_blind, va_recv hK hP (ci := 5) (q0 := 0) rfl rfl, zA_pre hP hD hS hK hQ hA [0, 1] rfl rfl (by decide) [] rfl⟩ rfl rfl hl.1 rfl (lv_room (Nat.le_of_ble_eq_true rfl)) dX4_hadGrace_3 ⟨zl_b rfl, zl_b rfl⟩) hSn (fun q _ h => h.elim) (fun q h => Nat.le_trans (Nat.le_refl _) h) (fun q _ h => Nat.le_trans (Nat.le_refl _) h) (fun E ce q9 u t9 H1 locs1 ht hvm hp9 hE hz1 hk1 hS1 hc1 hv1 hcl1 => ?_) (fun r u t9 H1 locs1 ht hvm hw hB hz1 hk1 hS1 => hw.elim)
  have hE : E = "java/lang/IndexOutOfBoundsException" := hE
  subst hE
  refine vx_widen (k := 1) (n := 6) (zl_b rfl) (zl_b rfl) ?_
  exact vx_out (fun x hx => (htab x hx).elim) hlocks hc1 hv1 hcl1 (fun t ht hW => ⟨(), trivial, rfl, zS_F hS1 ht⟩) hS1.2.2 (zl_b rfl) (zl_b rfl)
set_option maxHeartbeats 4000000 in
set_option maxRecDepth 100000 in
/-- paid: no such account -/
theorem c_paid (l : Launch) (hst : l.stackTraces = false) (dC : Nat → ClassId) (dI : Nat → Nat → Nat) (sz t : Nat) (h0 ac : Nat) (w0 b0 : Value) (dd : Int32) (ed : Value) (a1 a2 : Int32) : vx_Met l yX4_paid ws_X4_paid ({ frames := 7, cells := 1, slots := 6, locals := 120 }) (zA dC dI [(h0, .inr (5, [.ref ac, w0, b0, .int dd])), (ac, .inr (0, [.int 0, ed, .int 0]))] [] sz t [.ref h0, .int a1, .int a2]) (va_Qi (fun _ (_ : Unit) => False) (fun _ _ => True) (fun _ => False)) (vx_X (fun _ : Unit => True) (fun E _ _ => E = "java/lang/IndexOutOfBoundsException") (fun q => sz ≤ q)) 1 6 (fun q => sz ≤ q) := by
  refine vx_ofW (cc := cX4_paid) (maxL := 3) (ret := (some .char)) (by decide) rfl ?_
  intro p e s m args below meth c s₁ B hml htab hv
  obtain ⟨rfl, hsz, hP, hK, hD0, hQ⟩ := hv
  have hx := B.exec
  have hb := B.bytes
  have hr := B.returns
  have hts : ∀ w ∈ zG, w.before _ s = true := fun w h => atoms_spec (ws := ws_X4_paid) B.pre w (List.mem_cons_of_mem _ h)
  have hown : s.vm.findClass RX4 = some m.cls := findClass_of_methodNamed B.named
  have hlocks := B.notSynchronized
  subst hsz
  have hD := hD0.self (sz := s.heap.size)
  generalize hAe : va_A [(h0, .inr (5, [.ref ac, w0, b0, .int dd])), (ac, .inr (0, [.int 0, ed, .int 0]))] s.heap.size = A at hD hQ
  have hA : ∀ q : Nat, s.heap.size ≤ q → A q := fun q h => by rw [← hAe]; exact Or.inr h
  have hS : va_S A s.heap s.heap [] := va_S.rf
  have hSn : va_S (fun q => s.heap.size ≤ q) s.heap s.heap [] := va_S.rf
  have hP : va_P (dC, dI) zc [(h0, .inr (5, [.ref ac, w0, b0, .int dd])), (ac, .inr (0, [.int 0, ed, .int 0]))] s.heap := hP
  have hl := lv_entry ([.ref h0, .int a1, .int a2]) (n := 3) (Nat.le_of_ble_eq_true rfl)
  rw [lg_entry_eq]
  generalize (lg_sl ([.ref h0, .int a1, .int a2]) ++ List.replicate (3 - (lg_sl ([.ref h0, .int a1, .int a2])).length) Slot.unset).toArray = ls at hl ⊢
  have hl : lv_has ls 3 [(0, .ref h0), (1, .int a1), (2, .int a2)] := hl
  refine lv_aload_n hx hb dX4_paid_0 rfl (lv_at hl 0 rfl) ?_
  refine lv_aload_n hx hb dX4_paid_1 rfl (lv_at hl 0 rfl) ?_
  refine lv_iload_n hx hb dX4_paid_2 rfl (lv_at hl 1 rfl) ?_
  refine vx_callq (vx_runV (As := [.int a1]) (rest := [.ref h0]) ⟨hx, hb, hml, hown, hts⟩ (c_accountAt l hst dC dI s.heap.size t h0 ac w0 b0 dd a1 ed) (cwV 1 hts (zg_V kw_668 kw_670 kw_30 kw_64 kw_671) rfl rfl rfl (by decide +kernel) ⟨Nat.le_of_ble_eq_true rfl, Nat.le_of_ble_eq_true rfl⟩) ⟨zA_blind, va_recv hK hP (ci := 5) (q0 := 0) rfl rfl, zA_pre hP hD hS hK hQ hA [0, 1] rfl rfl (by decide) [] rfl⟩ rfl rfl hl.1 rfl (lv_room (Nat.le_of_ble_eq_true rfl)) dX4_paid_3 ⟨zl_b rfl, zl_b rfl⟩) hSn (fun q _ h => h.elim) (fun q h => Nat.le_trans (Nat.le_refl _) h) (fun q _ h => Nat.le_trans (Nat.le_refl _) h) (fun E ce q9 u t9 H1 locs1 ht hvm hp9 hE hz1 hk1 hS1 hc1 hv1 hcl1 => ?_) (fun r u t9 H1 locs1 ht hvm hw hB hz1 hk1 hS1 => hw.elim)
  have hE : E = "java/lang/IndexOutOfBoundsException" := hE
  subst hE
  refine vx_widen (k := 1) (n := 6) (zl_b rfl) (zl_b rfl) ?_
  exact vx_out (fun x hx => (htab x hx).elim) hlocks hc1 hv1 hcl1 (fun t ht hW => ⟨(), trivial, rfl, zS_F hS1 ht⟩) hS1.2.2 (zl_b rfl) (zl_b rfl)
set_option maxHeartbeats 4000000 in
set_option maxRecDepth 100000 in
/-- missing: no such account -/
theorem c_missing (l : Launch) (hst : l.stackTraces = false) (dC : Nat → ClassId) (dI : Nat → Nat → Nat) (sz t : Nat) (h0 ac : Nat) (w0 b0 : Value) (dd : Int32) (ed : Value) (a1 : Int32) : vx_Met l yX4_missing ws_X4_missing ({ frames := 7, cells := 1, slots := 6, locals := 120 }) (zA dC dI [(h0, .inr (5, [.ref ac, w0, b0, .int dd])), (ac, .inr (0, [.int 0, ed, .int 0]))] [] sz t [.ref h0, .int a1]) (va_Ql (fun _ (_ : Unit) => False) (fun _ _ => True) (fun _ => False)) (vx_X (fun _ : Unit => True) (fun E _ _ => E = "java/lang/IndexOutOfBoundsException") (fun q => sz ≤ q)) 1 6 (fun q => sz ≤ q) := by
  refine vx_ofW (cc := cX4_missing) (maxL := 2) (ret := (some .long)) (by decide) rfl ?_
  intro p e s m args below meth c s₁ B hml htab hv
  obtain ⟨rfl, hsz, hP, hK, hD0, hQ⟩ := hv
  have hx := B.exec
  have hb := B.bytes
  have hr := B.returns
  have hts : ∀ w ∈ zG, w.before _ s = true := fun w h => atoms_spec (ws := ws_X4_missing) B.pre w (List.mem_cons_of_mem _ h)
  have hown : s.vm.findClass RX4 = some m.cls := findClass_of_methodNamed B.named
  have hlocks := B.notSynchronized
  subst hsz
  have hD := hD0.self (sz := s.heap.size)
  generalize hAe : va_A [(h0, .inr (5, [.ref ac, w0, b0, .int dd])), (ac, .inr (0, [.int 0, ed, .int 0]))] s.heap.size = A at hD hQ
  have hA : ∀ q : Nat, s.heap.size ≤ q → A q := fun q h => by rw [← hAe]; exact Or.inr h
  have hS : va_S A s.heap s.heap [] := va_S.rf
  have hSn : va_S (fun q => s.heap.size ≤ q) s.heap s.heap [] := va_S.rf
  have hP : va_P (dC, dI) zc [(h0, .inr (5, [.ref ac, w0, b0, .int dd])), (ac, .inr (0, [.int 0, ed, .int 0]))] s.heap := hP
  have hl := lv_entry ([.ref h0, .int a1]) (n := 2) (Nat.le_of_ble_eq_true rfl)
  rw [lg_entry_eq]
  generalize (lg_sl ([.ref h0, .int a1]) ++ List.replicate (2 - (lg_sl ([.ref h0, .int a1])).length) Slot.unset).toArray = ls at hl ⊢
  have hl : lv_has ls 2 [(0, .ref h0), (1, .int a1)] := hl
  refine lv_aload_n hx hb dX4_missing_0 rfl (lv_at hl 0 rfl) ?_
  refine lv_aload_n hx hb dX4_missing_1 rfl (lv_at hl 0 rfl) ?_
  refine lv_iload_n hx hb dX4_missing_2 rfl (lv_at hl 1 rfl) ?_
  refine vx_callq (vx_runV (As := [.int a1]) (rest := [.ref h0]) ⟨hx, hb, hml, hown, hts⟩ (c_accountAt l hst dC dI s.heap.size t h0 ac w0 b0 dd a1 ed) (cwV 1 hts (zg_V kw_668 kw_670 kw_30 kw_64 kw_671) rfl rfl rfl (by decide +kernel) ⟨Nat.le_of_ble_eq_true rfl, Nat.le_of_ble_eq_true rfl⟩) ⟨zA_blind, va_recv hK hP (ci := 5) (q0 := 0) rfl rfl, zA_pre hP hD hS hK hQ hA [0, 1] rfl rfl (by decide) [] rfl⟩ rfl rfl hl.1 rfl (lv_room (Nat.le_of_ble_eq_true rfl)) dX4_missing_3 ⟨zl_b rfl, zl_b rfl⟩) hSn (fun q _ h => h.elim) (fun q h => Nat.le_trans (Nat.le_refl _) h) (fun q _ h => Nat.le_trans (Nat.le_refl _) h) (fun E ce q9 u t9 H1 locs1 ht hvm hp9 hE hz1 hk1 hS1 hc1 hv1 hcl1 => ?_) (fun r u t9 H1 locs1 ht hvm hw hB hz1 hk1 hS1 => hw.elim)
  have hE : E = "java/lang/IndexOutOfBoundsException" := hE
  subst hE
  refine vx_widen (k := 1) (n := 6) (zl_b rfl) (zl_b rfl) ?_
  exact vx_out (fun x hx => (htab x hx).elim) hlocks hc1 hv1 hcl1 (fun t ht hW => ⟨(), trivial, rfl, zS_F hS1 ht⟩) hS1.2.2 (zl_b rfl) (zl_b rfl)
set_option maxHeartbeats 4000000 in
set_option maxRecDepth 100000 in
/-- missed: no such account -/
theorem c_missed (l : Launch) (hst : l.stackTraces = false) (dC : Nat → ClassId) (dI : Nat → Nat → Nat) (sz t : Nat) (h0 ac : Nat) (w0 b0 : Value) (dd : Int32) (ed : Value) (a1 : Int32) : vx_Met l yX4_missed ws_X4_missed ({ frames := 7, cells := 1, slots := 6, locals := 120 }) (zA dC dI [(h0, .inr (5, [.ref ac, w0, b0, .int dd])), (ac, .inr (0, [.int 0, ed, .int 0]))] [] sz t [.ref h0, .int a1]) (va_Qi (fun _ (_ : Unit) => False) (fun _ _ => True) (fun _ => False)) (vx_X (fun _ : Unit => True) (fun E _ _ => E = "java/lang/IndexOutOfBoundsException") (fun q => sz ≤ q)) 1 6 (fun q => sz ≤ q) := by
  refine vx_ofW (cc := cX4_missed) (maxL := 2) (ret := (some .int)) (by decide) rfl ?_
  intro p e s m args below meth c s₁ B hml htab hv
  obtain ⟨rfl, hsz, hP, hK, hD0, hQ⟩ := hv
  have hx := B.exec
  have hb := B.bytes
  have hr := B.returns
  have hts : ∀ w ∈ zG, w.before _ s = true := fun w h => atoms_spec (ws := ws_X4_missed) B.pre w (List.mem_cons_of_mem _ h)
  have hown : s.vm.findClass RX4 = some m.cls := findClass_of_methodNamed B.named
  have hlocks := B.notSynchronized
  subst hsz
  have hD := hD0.self (sz := s.heap.size)
  generalize hAe : va_A [(h0, .inr (5, [.ref ac, w0, b0, .int dd])), (ac, .inr (0, [.int 0, ed, .int 0]))] s.heap.size = A at hD hQ
  have hA : ∀ q : Nat, s.heap.size ≤ q → A q := fun q h => by rw [← hAe]; exact Or.inr h
  have hS : va_S A s.heap s.heap [] := va_S.rf
  have hSn : va_S (fun q => s.heap.size ≤ q) s.heap s.heap [] := va_S.rf
  have hP : va_P (dC, dI) zc [(h0, .inr (5, [.ref ac, w0, b0, .int dd])), (ac, .inr (0, [.int 0, ed, .int 0]))] s.heap := hP
  have hl := lv_entry ([.ref h0, .int a1]) (n := 2) (Nat.le_of_ble_eq_true rfl)
  rw [lg_entry_eq]
  generalize (lg_sl ([.ref h0, .int a1]) ++ List.replicate (2 - (lg_sl ([.ref h0, .int a1])).length) Slot.unset).toArray = ls at hl ⊢
  have hl : lv_has ls 2 [(0, .ref h0), (1, .int a1)] := hl
  refine lv_aload_n hx hb dX4_missed_0 rfl (lv_at hl 0 rfl) ?_
  refine lv_aload_n hx hb dX4_missed_1 rfl (lv_at hl 0 rfl) ?_
  refine lv_iload_n hx hb dX4_missed_2 rfl (lv_at hl 1 rfl) ?_
  refine vx_callq (vx_runV (As := [.int a1]) (rest := [.ref h0]) ⟨hx, hb, hml, hown, hts⟩ (c_accountAt l hst dC dI s.heap.size t h0 ac w0 b0 dd a1 ed) (cwV 1 hts (zg_V kw_668 kw_670 kw_30 kw_64 kw_671) rfl rfl rfl (by decide +kernel) ⟨Nat.le_of_ble_eq_true rfl, Nat.le_of_ble_eq_true rfl⟩) ⟨zA_blind, va_recv hK hP (ci := 5) (q0 := 0) rfl rfl, zA_pre hP hD hS hK hQ hA [0, 1] rfl rfl (by decide) [] rfl⟩ rfl rfl hl.1 rfl (lv_room (Nat.le_of_ble_eq_true rfl)) dX4_missed_3 ⟨zl_b rfl, zl_b rfl⟩) hSn (fun q _ h => h.elim) (fun q h => Nat.le_trans (Nat.le_refl _) h) (fun q _ h => Nat.le_trans (Nat.le_refl _) h) (fun E ce q9 u t9 H1 locs1 ht hvm hp9 hE hz1 hk1 hS1 hc1 hv1 hcl1 => ?_) (fun r u t9 H1 locs1 ht hvm hw hB hz1 hk1 hS1 => hw.elim)
  have hE : E = "java/lang/IndexOutOfBoundsException" := hE
  subst hE
  refine vx_widen (k := 1) (n := 6) (zl_b rfl) (zl_b rfl) ?_
  exact vx_out (fun x hx => (htab x hx).elim) hlocks hc1 hv1 hcl1 (fun t ht hW => ⟨(), trivial, rfl, zS_F hS1 ht⟩) hS1.2.2 (zl_b rfl) (zl_b rfl)
set_option maxHeartbeats 4000000 in
set_option maxRecDepth 100000 in
/-- isOff: no such account -/
theorem c_isOff (l : Launch) (hst : l.stackTraces = false) (dC : Nat → ClassId) (dI : Nat → Nat → Nat) (sz t : Nat) (h0 ac : Nat) (w0 b0 : Value) (dd : Int32) (ed : Value) (a1 : Int32) : vx_Met l yX4_isOff ws_X4_isOff ({ frames := 7, cells := 1, slots := 6, locals := 120 }) (zA dC dI [(h0, .inr (5, [.ref ac, w0, b0, .int dd])), (ac, .inr (0, [.int 0, ed, .int 0]))] [] sz t [.ref h0, .int a1]) (va_Qi (fun _ (_ : Unit) => False) (fun _ _ => True) (fun _ => False)) (vx_X (fun _ : Unit => True) (fun E _ _ => E = "java/lang/IndexOutOfBoundsException") (fun q => sz ≤ q)) 1 6 (fun q => sz ≤ q) := by
  refine vx_ofW (cc := cX4_isOff) (maxL := 2) (ret := (some .boolean)) (by decide) rfl ?_
  intro p e s m args below meth c s₁ B hml htab hv
  obtain ⟨rfl, hsz, hP, hK, hD0, hQ⟩ := hv
  have hx := B.exec
  have hb := B.bytes
  have hr := B.returns
  have hts : ∀ w ∈ zG, w.before _ s = true := fun w h => atoms_spec (ws := ws_X4_isOff) B.pre w (List.mem_cons_of_mem _ h)
  have hown : s.vm.findClass RX4 = some m.cls := findClass_of_methodNamed B.named
  have hlocks := B.notSynchronized
  subst hsz
  have hD := hD0.self (sz := s.heap.size)
  generalize hAe : va_A [(h0, .inr (5, [.ref ac, w0, b0, .int dd])), (ac, .inr (0, [.int 0, ed, .int 0]))] s.heap.size = A at hD hQ
  have hA : ∀ q : Nat, s.heap.size ≤ q → A q := fun q h => by rw [← hAe]; exact Or.inr h
  have hS : va_S A s.heap s.heap [] := va_S.rf
  have hSn : va_S (fun q => s.heap.size ≤ q) s.heap s.heap [] := va_S.rf
  have hP : va_P (dC, dI) zc [(h0, .inr (5, [.ref ac, w0, b0, .int dd])), (ac, .inr (0, [.int 0, ed, .int 0]))] s.heap := hP
  have hl := lv_entry ([.ref h0, .int a1]) (n := 2) (Nat.le_of_ble_eq_true rfl)
  rw [lg_entry_eq]
  generalize (lg_sl ([.ref h0, .int a1]) ++ List.replicate (2 - (lg_sl ([.ref h0, .int a1])).length) Slot.unset).toArray = ls at hl ⊢
  have hl : lv_has ls 2 [(0, .ref h0), (1, .int a1)] := hl
  refine lv_aload_n hx hb dX4_isOff_0 rfl (lv_at hl 0 rfl) ?_
  refine lv_aload_n hx hb dX4_isOff_1 rfl (lv_at hl 0 rfl) ?_
  refine lv_iload_n hx hb dX4_isOff_2 rfl (lv_at hl 1 rfl) ?_
  refine vx_callq (vx_runV (As := [.int a1]) (rest := [.ref h0]) ⟨hx, hb, hml, hown, hts⟩ (c_accountAt l hst dC dI s.heap.size t h0 ac w0 b0 dd a1 ed) (cwV 1 hts (zg_V kw_668 kw_670 kw_30 kw_64 kw_671) rfl rfl rfl (by decide +kernel) ⟨Nat.le_of_ble_eq_true rfl, Nat.le_of_ble_eq_true rfl⟩) ⟨zA_blind, va_recv hK hP (ci := 5) (q0 := 0) rfl rfl, zA_pre hP hD hS hK hQ hA [0, 1] rfl rfl (by decide) [] rfl⟩ rfl rfl hl.1 rfl (lv_room (Nat.le_of_ble_eq_true rfl)) dX4_isOff_3 ⟨zl_b rfl, zl_b rfl⟩) hSn (fun q _ h => h.elim) (fun q h => Nat.le_trans (Nat.le_refl _) h) (fun q _ h => Nat.le_trans (Nat.le_refl _) h) (fun E ce q9 u t9 H1 locs1 ht hvm hp9 hE hz1 hk1 hS1 hc1 hv1 hcl1 => ?_) (fun r u t9 H1 locs1 ht hvm hw hB hz1 hk1 hS1 => hw.elim)
  have hE : E = "java/lang/IndexOutOfBoundsException" := hE
  subst hE
  refine vx_widen (k := 1) (n := 6) (zl_b rfl) (zl_b rfl) ?_
  exact vx_out (fun x hx => (htab x hx).elim) hlocks hc1 hv1 hcl1 (fun t ht hW => ⟨(), trivial, rfl, zS_F hS1 ht⟩) hS1.2.2 (zl_b rfl) (zl_b rfl)
set_option maxHeartbeats 4000000 in
set_option maxRecDepth 100000 in
/-- points: no such account -/
theorem c_points (l : Launch) (hst : l.stackTraces = false) (dC : Nat → ClassId) (dI : Nat → Nat → Nat) (sz t : Nat) (h0 ac : Nat) (w0 b0 : Value) (dd : Int32) (ed : Value) (a1 : Int32) : vx_Met l yX4_points ws_X4_points ({ frames := 7, cells := 1, slots := 6, locals := 120 }) (zA dC dI [(h0, .inr (5, [.ref ac, w0, b0, .int dd])), (ac, .inr (0, [.int 0, ed, .int 0]))] [] sz t [.ref h0, .int a1]) (va_Ql (fun _ (_ : Unit) => False) (fun _ _ => True) (fun _ => False)) (vx_X (fun _ : Unit => True) (fun E _ _ => E = "java/lang/IndexOutOfBoundsException") (fun q => sz ≤ q)) 1 6 (fun q => sz ≤ q) := by
  refine vx_ofW (cc := cX4_points) (maxL := 2) (ret := (some .long)) (by decide) rfl ?_
  intro p e s m args below meth c s₁ B hml htab hv
  obtain ⟨rfl, hsz, hP, hK, hD0, hQ⟩ := hv
  have hx := B.exec
  have hb := B.bytes
  have hr := B.returns
  have hts : ∀ w ∈ zG, w.before _ s = true := fun w h => atoms_spec (ws := ws_X4_points) B.pre w (List.mem_cons_of_mem _ h)
  have hown : s.vm.findClass RX4 = some m.cls := findClass_of_methodNamed B.named
  have hlocks := B.notSynchronized
  subst hsz
  have hD := hD0.self (sz := s.heap.size)
  generalize hAe : va_A [(h0, .inr (5, [.ref ac, w0, b0, .int dd])), (ac, .inr (0, [.int 0, ed, .int 0]))] s.heap.size = A at hD hQ
  have hA : ∀ q : Nat, s.heap.size ≤ q → A q := fun q h => by rw [← hAe]; exact Or.inr h
  have hS : va_S A s.heap s.heap [] := va_S.rf
  have hSn : va_S (fun q => s.heap.size ≤ q) s.heap s.heap [] := va_S.rf
  have hP : va_P (dC, dI) zc [(h0, .inr (5, [.ref ac, w0, b0, .int dd])), (ac, .inr (0, [.int 0, ed, .int 0]))] s.heap := hP
  have hl := lv_entry ([.ref h0, .int a1]) (n := 2) (Nat.le_of_ble_eq_true rfl)
  rw [lg_entry_eq]
  generalize (lg_sl ([.ref h0, .int a1]) ++ List.replicate (2 - (lg_sl ([.ref h0, .int a1])).length) Slot.unset).toArray = ls at hl ⊢
  have hl : lv_has ls 2 [(0, .ref h0), (1, .int a1)] := hl
  refine lv_aload_n hx hb dX4_points_0 rfl (lv_at hl 0 rfl) ?_
  refine lv_iload_n hx hb dX4_points_1 rfl (lv_at hl 1 rfl) ?_
  refine vx_callq (vx_runV (As := [.int a1]) (rest := []) ⟨hx, hb, hml, hown, hts⟩ (c_accountAt l hst dC dI s.heap.size t h0 ac w0 b0 dd a1 ed) (cwV 1 hts (zg_V kw_668 kw_670 kw_30 kw_64 kw_671) rfl rfl rfl (by decide +kernel) ⟨Nat.le_of_ble_eq_true rfl, Nat.le_of_ble_eq_true rfl⟩) ⟨zA_blind, va_recv hK hP (ci := 5) (q0 := 0) rfl rfl, zA_pre hP hD hS hK hQ hA [0, 1] rfl rfl (by decide) [] rfl⟩ rfl rfl hl.1 rfl (lv_room (Nat.le_of_ble_eq_true rfl)) dX4_points_2 ⟨zl_b rfl, zl_b rfl⟩) hSn (fun q _ h => h.elim) (fun q h => Nat.le_trans (Nat.le_refl _) h) (fun q _ h => Nat.le_trans (Nat.le_refl _) h) (fun E ce q9 u t9 H1 locs1 ht hvm hp9 hE hz1 hk1 hS1 hc1 hv1 hcl1 => ?_) (fun r u t9 H1 locs1 ht hvm hw hB hz1 hk1 hS1 => hw.elim)
  have hE : E = "java/lang/IndexOutOfBoundsException" := hE
  subst hE
  refine vx_widen (k := 1) (n := 6) (zl_b rfl) (zl_b rfl) ?_
  exact vx_out (fun x hx => (htab x hx).elim) hlocks hc1 hv1 hcl1 (fun t ht hW => ⟨(), trivial, rfl, zS_F hS1 ht⟩) hS1.2.2 (zl_b rfl) (zl_b rfl)
set_option maxHeartbeats 4000000 in
set_option maxRecDepth 100000 in
/-- events: no such account -/
theorem c_events (l : Launch) (hst : l.stackTraces = false) (dC : Nat → ClassId) (dI : Nat → Nat → Nat) (sz t : Nat) (h0 ac : Nat) (w0 b0 : Value) (dd : Int32) (ed : Value) (a1 : Int32) : vx_Met l yX4_events ws_X4_events ({ frames := 7, cells := 1, slots := 6, locals := 120 }) (zA dC dI [(h0, .inr (5, [.ref ac, w0, b0, .int dd])), (ac, .inr (0, [.int 0, ed, .int 0]))] [] sz t [.ref h0, .int a1]) (va_Qi (fun _ (_ : Unit) => False) (fun _ _ => True) (fun _ => False)) (vx_X (fun _ : Unit => True) (fun E _ _ => E = "java/lang/IndexOutOfBoundsException") (fun q => sz ≤ q)) 1 6 (fun q => sz ≤ q) := by
  refine vx_ofW (cc := cX4_events) (maxL := 2) (ret := (some .int)) (by decide) rfl ?_
  intro p e s m args below meth c s₁ B hml htab hv
  obtain ⟨rfl, hsz, hP, hK, hD0, hQ⟩ := hv
  have hx := B.exec
  have hb := B.bytes
  have hr := B.returns
  have hts : ∀ w ∈ zG, w.before _ s = true := fun w h => atoms_spec (ws := ws_X4_events) B.pre w (List.mem_cons_of_mem _ h)
  have hown : s.vm.findClass RX4 = some m.cls := findClass_of_methodNamed B.named
  have hlocks := B.notSynchronized
  subst hsz
  have hD := hD0.self (sz := s.heap.size)
  generalize hAe : va_A [(h0, .inr (5, [.ref ac, w0, b0, .int dd])), (ac, .inr (0, [.int 0, ed, .int 0]))] s.heap.size = A at hD hQ
  have hA : ∀ q : Nat, s.heap.size ≤ q → A q := fun q h => by rw [← hAe]; exact Or.inr h
  have hS : va_S A s.heap s.heap [] := va_S.rf
  have hSn : va_S (fun q => s.heap.size ≤ q) s.heap s.heap [] := va_S.rf
  have hP : va_P (dC, dI) zc [(h0, .inr (5, [.ref ac, w0, b0, .int dd])), (ac, .inr (0, [.int 0, ed, .int 0]))] s.heap := hP
  have hl := lv_entry ([.ref h0, .int a1]) (n := 2) (Nat.le_of_ble_eq_true rfl)
  rw [lg_entry_eq]
  generalize (lg_sl ([.ref h0, .int a1]) ++ List.replicate (2 - (lg_sl ([.ref h0, .int a1])).length) Slot.unset).toArray = ls at hl ⊢
  have hl : lv_has ls 2 [(0, .ref h0), (1, .int a1)] := hl
  refine lv_aload_n hx hb dX4_events_0 rfl (lv_at hl 0 rfl) ?_
  refine lv_iload_n hx hb dX4_events_1 rfl (lv_at hl 1 rfl) ?_
  refine vx_callq (vx_runV (As := [.int a1]) (rest := []) ⟨hx, hb, hml, hown, hts⟩ (c_accountAt l hst dC dI s.heap.size t h0 ac w0 b0 dd a1 ed) (cwV 1 hts (zg_V kw_668 kw_670 kw_30 kw_64 kw_671) rfl rfl rfl (by decide +kernel) ⟨Nat.le_of_ble_eq_true rfl, Nat.le_of_ble_eq_true rfl⟩) ⟨zA_blind, va_recv hK hP (ci := 5) (q0 := 0) rfl rfl, zA_pre hP hD hS hK hQ hA [0, 1] rfl rfl (by decide) [] rfl⟩ rfl rfl hl.1 rfl (lv_room (Nat.le_of_ble_eq_true rfl)) dX4_events_2 ⟨zl_b rfl, zl_b rfl⟩) hSn (fun q _ h => h.elim) (fun q h => Nat.le_trans (Nat.le_refl _) h) (fun q _ h => Nat.le_trans (Nat.le_refl _) h) (fun E ce q9 u t9 H1 locs1 ht hvm hp9 hE hz1 hk1 hS1 hc1 hv1 hcl1 => ?_) (fun r u t9 H1 locs1 ht hvm hw hB hz1 hk1 hS1 => hw.elim)
  have hE : E = "java/lang/IndexOutOfBoundsException" := hE
  subst hE
  refine vx_widen (k := 1) (n := 6) (zl_b rfl) (zl_b rfl) ?_
  exact vx_out (fun x hx => (htab x hx).elim) hlocks hc1 hv1 hcl1 (fun t ht hW => ⟨(), trivial, rfl, zS_F hS1 ht⟩) hS1.2.2 (zl_b rfl) (zl_b rfl)
set_option maxHeartbeats 4000000 in
set_option maxRecDepth 100000 in
/-- kindOf: no such account -/
theorem c_kindOf (l : Launch) (hst : l.stackTraces = false) (dC : Nat → ClassId) (dI : Nat → Nat → Nat) (sz t : Nat) (h0 ac : Nat) (w0 b0 : Value) (dd : Int32) (ed : Value) (a1 a2 : Int32) : vx_Met l yX4_kindOf ws_X4_kindOf ({ frames := 7, cells := 1, slots := 6, locals := 120 }) (zA dC dI [(h0, .inr (5, [.ref ac, w0, b0, .int dd])), (ac, .inr (0, [.int 0, ed, .int 0]))] [] sz t [.ref h0, .int a1, .int a2]) (va_Qi (fun _ (_ : Unit) => False) (fun _ _ => True) (fun _ => False)) (vx_X (fun _ : Unit => True) (fun E _ _ => E = "java/lang/IndexOutOfBoundsException") (fun q => sz ≤ q)) 1 6 (fun q => sz ≤ q) := by
  refine vx_ofW (cc := cX4_kindOf) (maxL := 3) (ret := (some .char)) (by decide) rfl ?_
  intro p e s m args below meth c s₁ B hml htab hv
  obtain ⟨rfl, hsz, hP, hK, hD0, hQ⟩ := hv
  have hx := B.exec
  have hb := B.bytes
  have hr := B.returns
  have hts : ∀ w ∈ zG, w.before _ s = true := fun w h => atoms_spec (ws := ws_X4_kindOf) B.pre w (List.mem_cons_of_mem _ h)
  have hown : s.vm.findClass RX4 = some m.cls := findClass_of_methodNamed B.named
  have hlocks := B.notSynchronized
  subst hsz
  have hD := hD0.self (sz := s.heap.size)
  generalize hAe : va_A [(h0, .inr (5, [.ref ac, w0, b0, .int dd])), (ac, .inr (0, [.int 0, ed, .int 0]))] s.heap.size = A at hD hQ
  have hA : ∀ q : Nat, s.heap.size ≤ q → A q := fun q h => by rw [← hAe]; exact Or.inr h
  have hS : va_S A s.heap s.heap [] := va_S.rf
  have hSn : va_S (fun q => s.heap.size ≤ q) s.heap s.heap [] := va_S.rf
  have hP : va_P (dC, dI) zc [(h0, .inr (5, [.ref ac, w0, b0, .int dd])), (ac, .inr (0, [.int 0, ed, .int 0]))] s.heap := hP
  have hl := lv_entry ([.ref h0, .int a1, .int a2]) (n := 3) (Nat.le_of_ble_eq_true rfl)
  rw [lg_entry_eq]
  generalize (lg_sl ([.ref h0, .int a1, .int a2]) ++ List.replicate (3 - (lg_sl ([.ref h0, .int a1, .int a2])).length) Slot.unset).toArray = ls at hl ⊢
  have hl : lv_has ls 3 [(0, .ref h0), (1, .int a1), (2, .int a2)] := hl
  refine lv_aload_n hx hb dX4_kindOf_0 rfl (lv_at hl 0 rfl) ?_
  refine lv_iload_n hx hb dX4_kindOf_1 rfl (lv_at hl 1 rfl) ?_
  refine vx_callq (vx_runV (As := [.int a1]) (rest := []) ⟨hx, hb, hml, hown, hts⟩ (c_accountAt l hst dC dI s.heap.size t h0 ac w0 b0 dd a1 ed) (cwV 1 hts (zg_V kw_668 kw_670 kw_30 kw_64 kw_671) rfl rfl rfl (by decide +kernel) ⟨Nat.le_of_ble_eq_true rfl, Nat.le_of_ble_eq_true rfl⟩) ⟨zA_blind, va_recv hK hP (ci := 5) (q0 := 0) rfl rfl, zA_pre hP hD hS hK hQ hA [0, 1] rfl rfl (by decide) [] rfl⟩ rfl rfl hl.1 rfl (lv_room (Nat.le_of_ble_eq_true rfl)) dX4_kindOf_2 ⟨zl_b rfl, zl_b rfl⟩) hSn (fun q _ h => h.elim) (fun q h => Nat.le_trans (Nat.le_refl _) h) (fun q _ h => Nat.le_trans (Nat.le_refl _) h) (fun E ce q9 u t9 H1 locs1 ht hvm hp9 hE hz1 hk1 hS1 hc1 hv1 hcl1 => ?_) (fun r u t9 H1 locs1 ht hvm hw hB hz1 hk1 hS1 => hw.elim)
  have hE : E = "java/lang/IndexOutOfBoundsException" := hE
  subst hE
  refine vx_widen (k := 1) (n := 6) (zl_b rfl) (zl_b rfl) ?_
  exact vx_out (fun x hx => (htab x hx).elim) hlocks hc1 hv1 hcl1 (fun t ht hW => ⟨(), trivial, rfl, zS_F hS1 ht⟩) hS1.2.2 (zl_b rfl) (zl_b rfl)
set_option maxHeartbeats 4000000 in
set_option maxRecDepth 100000 in
/-- isBack: no such account -/
theorem c_isBack (l : Launch) (hst : l.stackTraces = false) (dC : Nat → ClassId) (dI : Nat → Nat → Nat) (sz t : Nat) (h0 ac : Nat) (w0 b0 : Value) (dd : Int32) (ed : Value) (a1 a2 : Int32) : vx_Met l yX4_isBack ws_X4_isBack ({ frames := 7, cells := 1, slots := 6, locals := 120 }) (zA dC dI [(h0, .inr (5, [.ref ac, w0, b0, .int dd])), (ac, .inr (0, [.int 0, ed, .int 0]))] [] sz t [.ref h0, .int a1, .int a2]) (va_Qi (fun _ (_ : Unit) => False) (fun _ _ => True) (fun _ => False)) (vx_X (fun _ : Unit => True) (fun E _ _ => E = "java/lang/IndexOutOfBoundsException") (fun q => sz ≤ q)) 1 6 (fun q => sz ≤ q) := by
  refine vx_ofW (cc := cX4_isBack) (maxL := 3) (ret := (some .boolean)) (by decide) rfl ?_
  intro p e s m args below meth c s₁ B hml htab hv
  obtain ⟨rfl, hsz, hP, hK, hD0, hQ⟩ := hv
  have hx := B.exec
  have hb := B.bytes
  have hr := B.returns
  have hts : ∀ w ∈ zG, w.before _ s = true := fun w h => atoms_spec (ws := ws_X4_isBack) B.pre w (List.mem_cons_of_mem _ h)
  have hown : s.vm.findClass RX4 = some m.cls := findClass_of_methodNamed B.named
  have hlocks := B.notSynchronized
  subst hsz
  have hD := hD0.self (sz := s.heap.size)
  generalize hAe : va_A [(h0, .inr (5, [.ref ac, w0, b0, .int dd])), (ac, .inr (0, [.int 0, ed, .int 0]))] s.heap.size = A at hD hQ
  have hA : ∀ q : Nat, s.heap.size ≤ q → A q := fun q h => by rw [← hAe]; exact Or.inr h
  have hS : va_S A s.heap s.heap [] := va_S.rf
  have hSn : va_S (fun q => s.heap.size ≤ q) s.heap s.heap [] := va_S.rf
  have hP : va_P (dC, dI) zc [(h0, .inr (5, [.ref ac, w0, b0, .int dd])), (ac, .inr (0, [.int 0, ed, .int 0]))] s.heap := hP
  have hl := lv_entry ([.ref h0, .int a1, .int a2]) (n := 3) (Nat.le_of_ble_eq_true rfl)
  rw [lg_entry_eq]
  generalize (lg_sl ([.ref h0, .int a1, .int a2]) ++ List.replicate (3 - (lg_sl ([.ref h0, .int a1, .int a2])).length) Slot.unset).toArray = ls at hl ⊢
  have hl : lv_has ls 3 [(0, .ref h0), (1, .int a1), (2, .int a2)] := hl
  refine lv_aload_n hx hb dX4_isBack_0 rfl (lv_at hl 0 rfl) ?_
  refine lv_iload_n hx hb dX4_isBack_1 rfl (lv_at hl 1 rfl) ?_
  refine vx_callq (vx_runV (As := [.int a1]) (rest := []) ⟨hx, hb, hml, hown, hts⟩ (c_accountAt l hst dC dI s.heap.size t h0 ac w0 b0 dd a1 ed) (cwV 1 hts (zg_V kw_668 kw_670 kw_30 kw_64 kw_671) rfl rfl rfl (by decide +kernel) ⟨Nat.le_of_ble_eq_true rfl, Nat.le_of_ble_eq_true rfl⟩) ⟨zA_blind, va_recv hK hP (ci := 5) (q0 := 0) rfl rfl, zA_pre hP hD hS hK hQ hA [0, 1] rfl rfl (by decide) [] rfl⟩ rfl rfl hl.1 rfl (lv_room (Nat.le_of_ble_eq_true rfl)) dX4_isBack_2 ⟨zl_b rfl, zl_b rfl⟩) hSn (fun q _ h => h.elim) (fun q h => Nat.le_trans (Nat.le_refl _) h) (fun q _ h => Nat.le_trans (Nat.le_refl _) h) (fun E ce q9 u t9 H1 locs1 ht hvm hp9 hE hz1 hk1 hS1 hc1 hv1 hcl1 => ?_) (fun r u t9 H1 locs1 ht hvm hw hB hz1 hk1 hS1 => hw.elim)
  have hE : E = "java/lang/IndexOutOfBoundsException" := hE
  subst hE
  refine vx_widen (k := 1) (n := 6) (zl_b rfl) (zl_b rfl) ?_
  exact vx_out (fun x hx => (htab x hx).elim) hlocks hc1 hv1 hcl1 (fun t ht hW => ⟨(), trivial, rfl, zS_F hS1 ht⟩) hS1.2.2 (zl_b rfl) (zl_b rfl)
set_option maxHeartbeats 4000000 in
set_option maxRecDepth 100000 in
/-- sum: no such account -/
theorem c_sum (l : Launch) (hst : l.stackTraces = false) (dC : Nat → ClassId) (dI : Nat → Nat → Nat) (sz t : Nat) (h0 ac : Nat) (w0 b0 : Value) (dd : Int32) (ed : Value) (a1 a2 : Int32) : vx_Met l yX4_sum ws_X4_sum ({ frames := 7, cells := 1, slots := 6, locals := 120 }) (zA dC dI [(h0, .inr (5, [.ref ac, w0, b0, .int dd])), (ac, .inr (0, [.int 0, ed, .int 0]))] [] sz t [.ref h0, .int a1, .int a2]) (va_Qi (fun _ (_ : Unit) => False) (fun _ _ => True) (fun _ => False)) (vx_X (fun _ : Unit => True) (fun E _ _ => E = "java/lang/IndexOutOfBoundsException") (fun q => sz ≤ q)) 1 6 (fun q => sz ≤ q) := by
  refine vx_ofW (cc := cX4_sum) (maxL := 3) (ret := (some .int)) (by decide) rfl ?_
  intro p e s m args below meth c s₁ B hml htab hv
  obtain ⟨rfl, hsz, hP, hK, hD0, hQ⟩ := hv
  have hx := B.exec
  have hb := B.bytes
  have hr := B.returns
  have hts : ∀ w ∈ zG, w.before _ s = true := fun w h => atoms_spec (ws := ws_X4_sum) B.pre w (List.mem_cons_of_mem _ h)
  have hown : s.vm.findClass RX4 = some m.cls := findClass_of_methodNamed B.named
  have hlocks := B.notSynchronized
  subst hsz
  have hD := hD0.self (sz := s.heap.size)
  generalize hAe : va_A [(h0, .inr (5, [.ref ac, w0, b0, .int dd])), (ac, .inr (0, [.int 0, ed, .int 0]))] s.heap.size = A at hD hQ
  have hA : ∀ q : Nat, s.heap.size ≤ q → A q := fun q h => by rw [← hAe]; exact Or.inr h
  have hS : va_S A s.heap s.heap [] := va_S.rf
  have hSn : va_S (fun q => s.heap.size ≤ q) s.heap s.heap [] := va_S.rf
  have hP : va_P (dC, dI) zc [(h0, .inr (5, [.ref ac, w0, b0, .int dd])), (ac, .inr (0, [.int 0, ed, .int 0]))] s.heap := hP
  have hl := lv_entry ([.ref h0, .int a1, .int a2]) (n := 3) (Nat.le_of_ble_eq_true rfl)
  rw [lg_entry_eq]
  generalize (lg_sl ([.ref h0, .int a1, .int a2]) ++ List.replicate (3 - (lg_sl ([.ref h0, .int a1, .int a2])).length) Slot.unset).toArray = ls at hl ⊢
  have hl : lv_has ls 3 [(0, .ref h0), (1, .int a1), (2, .int a2)] := hl
  refine lv_aload_n hx hb dX4_sum_0 rfl (lv_at hl 0 rfl) ?_
  refine lv_iload_n hx hb dX4_sum_1 rfl (lv_at hl 1 rfl) ?_
  refine vx_callq (vx_runV (As := [.int a1]) (rest := []) ⟨hx, hb, hml, hown, hts⟩ (c_accountAt l hst dC dI s.heap.size t h0 ac w0 b0 dd a1 ed) (cwV 1 hts (zg_V kw_668 kw_670 kw_30 kw_64 kw_671) rfl rfl rfl (by decide +kernel) ⟨Nat.le_of_ble_eq_true rfl, Nat.le_of_ble_eq_true rfl⟩) ⟨zA_blind, va_recv hK hP (ci := 5) (q0 := 0) rfl rfl, zA_pre hP hD hS hK hQ hA [0, 1] rfl rfl (by decide) [] rfl⟩ rfl rfl hl.1 rfl (lv_room (Nat.le_of_ble_eq_true rfl)) dX4_sum_2 ⟨zl_b rfl, zl_b rfl⟩) hSn (fun q _ h => h.elim) (fun q h => Nat.le_trans (Nat.le_refl _) h) (fun q _ h => Nat.le_trans (Nat.le_refl _) h) (fun E ce q9 u t9 H1 locs1 ht hvm hp9 hE hz1 hk1 hS1 hc1 hv1 hcl1 => ?_) (fun r u t9 H1 locs1 ht hvm hw hB hz1 hk1 hS1 => hw.elim)
  have hE : E = "java/lang/IndexOutOfBoundsException" := hE
  subst hE
  refine vx_widen (k := 1) (n := 6) (zl_b rfl) (zl_b rfl) ?_
  exact vx_out (fun x hx => (htab x hx).elim) hlocks hc1 hv1 hcl1 (fun t ht hW => ⟨(), trivial, rfl, zS_F hS1 ht⟩) hS1.2.2 (zl_b rfl) (zl_b rfl)
set_option maxHeartbeats 4000000 in
set_option maxRecDepth 100000 in
/-- why: no such account -/
theorem c_why (l : Launch) (hst : l.stackTraces = false) (dC : Nat → ClassId) (dI : Nat → Nat → Nat) (sz t : Nat) (h0 ac : Nat) (w0 b0 : Value) (dd : Int32) (ed : Value) (a1 a2 a3 : Int32) : vx_Met l yX4_why ws_X4_why ({ frames := 7, cells := 1, slots := 6, locals := 120 }) (zA dC dI [(h0, .inr (5, [.ref ac, w0, b0, .int dd])), (ac, .inr (0, [.int 0, ed, .int 0]))] [] sz t [.ref h0, .int a1, .int a2, .int a3]) (va_Qi (fun _ (_ : Unit) => False) (fun _ _ => True) (fun _ => False)) (vx_X (fun _ : Unit => True) (fun E _ _ => E = "java/lang/IndexOutOfBoundsException") (fun q => sz ≤ q)) 1 6 (fun q => sz ≤ q) := by
  refine vx_ofW (cc := cX4_why) (maxL := 7) (ret := (some .char)) (by decide) rfl ?_
  intro p e s m args below meth c s₁ B hml htab hv
  obtain ⟨rfl, hsz, hP, hK, hD0, hQ⟩ := hv
  have hx := B.exec
  have hb := B.bytes
  have hr := B.returns
  have hts : ∀ w ∈ zG, w.before _ s = true := fun w h => atoms_spec (ws := ws_X4_why) B.pre w (List.mem_cons_of_mem _ h)
  have hown : s.vm.findClass RX4 = some m.cls := findClass_of_methodNamed B.named
  have hlocks := B.notSynchronized
  subst hsz
  have hD := hD0.self (sz := s.heap.size)
  generalize hAe : va_A [(h0, .inr (5, [.ref ac, w0, b0, .int dd])), (ac, .inr (0, [.int 0, ed, .int 0]))] s.heap.size = A at hD hQ
  have hA : ∀ q : Nat, s.heap.size ≤ q → A q := fun q h => by rw [← hAe]; exact Or.inr h
  have hS : va_S A s.heap s.heap [] := va_S.rf
  have hSn : va_S (fun q => s.heap.size ≤ q) s.heap s.heap [] := va_S.rf
  have hP : va_P (dC, dI) zc [(h0, .inr (5, [.ref ac, w0, b0, .int dd])), (ac, .inr (0, [.int 0, ed, .int 0]))] s.heap := hP
  have hl := lv_entry ([.ref h0, .int a1, .int a2, .int a3]) (n := 7) (Nat.le_of_ble_eq_true rfl)
  rw [lg_entry_eq]
  generalize (lg_sl ([.ref h0, .int a1, .int a2, .int a3]) ++ List.replicate (7 - (lg_sl ([.ref h0, .int a1, .int a2, .int a3])).length) Slot.unset).toArray = ls at hl ⊢
  have hl : lv_has ls 7 [(0, .ref h0), (1, .int a1), (2, .int a2), (3, .int a3)] := hl
  refine lv_aload_n hx hb dX4_why_0 rfl (lv_at hl 0 rfl) ?_
  refine lv_iload_n hx hb dX4_why_1 rfl (lv_at hl 1 rfl) ?_
  refine vx_callq (vx_runV (As := [.int a1]) (rest := []) ⟨hx, hb, hml, hown, hts⟩ (c_accountAt l hst dC dI s.heap.size t h0 ac w0 b0 dd a1 ed) (cwV 1 hts (zg_V kw_668 kw_670 kw_30 kw_64 kw_671) rfl rfl rfl (by decide +kernel) ⟨Nat.le_of_ble_eq_true rfl, Nat.le_of_ble_eq_true rfl⟩) ⟨zA_blind, va_recv hK hP (ci := 5) (q0 := 0) rfl rfl, zA_pre hP hD hS hK hQ hA [0, 1] rfl rfl (by decide) [] rfl⟩ rfl rfl hl.1 rfl (lv_room (Nat.le_of_ble_eq_true rfl)) dX4_why_2 ⟨zl_b rfl, zl_b rfl⟩) hSn (fun q _ h => h.elim) (fun q h => Nat.le_trans (Nat.le_refl _) h) (fun q _ h => Nat.le_trans (Nat.le_refl _) h) (fun E ce q9 u t9 H1 locs1 ht hvm hp9 hE hz1 hk1 hS1 hc1 hv1 hcl1 => ?_) (fun r u t9 H1 locs1 ht hvm hw hB hz1 hk1 hS1 => hw.elim)
  have hE : E = "java/lang/IndexOutOfBoundsException" := hE
  subst hE
  refine vx_widen (k := 1) (n := 6) (zl_b rfl) (zl_b rfl) ?_
  exact vx_out (fun x hx => (htab x hx).elim) hlocks hc1 hv1 hcl1 (fun t ht hW => ⟨(), trivial, rfl, zS_F hS1 ht⟩) hS1.2.2 (zl_b rfl) (zl_b rfl)
set_option maxHeartbeats 4000000 in
set_option maxRecDepth 100000 in
/-- reasons: no such account -/
theorem c_reasons (l : Launch) (hst : l.stackTraces = false) (dC : Nat → ClassId) (dI : Nat → Nat → Nat) (sz t : Nat) (h0 ac : Nat) (w0 b0 : Value) (dd : Int32) (ed : Value) (a1 a2 a3 : Int32) : vx_Met l yX4_reasons ws_X4_reasons ({ frames := 7, cells := 1, slots := 6, locals := 120 }) (zA dC dI [(h0, .inr (5, [.ref ac, w0, b0, .int dd])), (ac, .inr (0, [.int 0, ed, .int 0]))] [] sz t [.ref h0, .int a1, .int a2, .int a3]) (va_Qi (fun _ (_ : Unit) => False) (fun _ _ => True) (fun _ => False)) (vx_X (fun _ : Unit => True) (fun E _ _ => E = "java/lang/IndexOutOfBoundsException") (fun q => sz ≤ q)) 1 6 (fun q => sz ≤ q) := by
  refine vx_ofW (cc := cX4_reasons) (maxL := 6) (ret := (some .int)) (by decide) rfl ?_
  intro p e s m args below meth c s₁ B hml htab hv
  obtain ⟨rfl, hsz, hP, hK, hD0, hQ⟩ := hv
  have hx := B.exec
  have hb := B.bytes
  have hr := B.returns
  have hts : ∀ w ∈ zG, w.before _ s = true := fun w h => atoms_spec (ws := ws_X4_reasons) B.pre w (List.mem_cons_of_mem _ h)
  have hown : s.vm.findClass RX4 = some m.cls := findClass_of_methodNamed B.named
  have hlocks := B.notSynchronized
  subst hsz
  have hD := hD0.self (sz := s.heap.size)
  generalize hAe : va_A [(h0, .inr (5, [.ref ac, w0, b0, .int dd])), (ac, .inr (0, [.int 0, ed, .int 0]))] s.heap.size = A at hD hQ
  have hA : ∀ q : Nat, s.heap.size ≤ q → A q := fun q h => by rw [← hAe]; exact Or.inr h
  have hS : va_S A s.heap s.heap [] := va_S.rf
  have hSn : va_S (fun q => s.heap.size ≤ q) s.heap s.heap [] := va_S.rf
  have hP : va_P (dC, dI) zc [(h0, .inr (5, [.ref ac, w0, b0, .int dd])), (ac, .inr (0, [.int 0, ed, .int 0]))] s.heap := hP
  have hl := lv_entry ([.ref h0, .int a1, .int a2, .int a3]) (n := 6) (Nat.le_of_ble_eq_true rfl)
  rw [lg_entry_eq]
  generalize (lg_sl ([.ref h0, .int a1, .int a2, .int a3]) ++ List.replicate (6 - (lg_sl ([.ref h0, .int a1, .int a2, .int a3])).length) Slot.unset).toArray = ls at hl ⊢
  have hl : lv_has ls 6 [(0, .ref h0), (1, .int a1), (2, .int a2), (3, .int a3)] := hl
  refine lv_aload_n hx hb dX4_reasons_0 rfl (lv_at hl 0 rfl) ?_
  refine lv_iload_n hx hb dX4_reasons_1 rfl (lv_at hl 1 rfl) ?_
  refine vx_callq (vx_runV (As := [.int a1]) (rest := []) ⟨hx, hb, hml, hown, hts⟩ (c_accountAt l hst dC dI s.heap.size t h0 ac w0 b0 dd a1 ed) (cwV 1 hts (zg_V kw_668 kw_670 kw_30 kw_64 kw_671) rfl rfl rfl (by decide +kernel) ⟨Nat.le_of_ble_eq_true rfl, Nat.le_of_ble_eq_true rfl⟩) ⟨zA_blind, va_recv hK hP (ci := 5) (q0 := 0) rfl rfl, zA_pre hP hD hS hK hQ hA [0, 1] rfl rfl (by decide) [] rfl⟩ rfl rfl hl.1 rfl (lv_room (Nat.le_of_ble_eq_true rfl)) dX4_reasons_2 ⟨zl_b rfl, zl_b rfl⟩) hSn (fun q _ h => h.elim) (fun q h => Nat.le_trans (Nat.le_refl _) h) (fun q _ h => Nat.le_trans (Nat.le_refl _) h) (fun E ce q9 u t9 H1 locs1 ht hvm hp9 hE hz1 hk1 hS1 hc1 hv1 hcl1 => ?_) (fun r u t9 H1 locs1 ht hvm hw hB hz1 hk1 hS1 => hw.elim)
  have hE : E = "java/lang/IndexOutOfBoundsException" := hE
  subst hE
  refine vx_widen (k := 1) (n := 6) (zl_b rfl) (zl_b rfl) ?_
  exact vx_out (fun x hx => (htab x hx).elim) hlocks hc1 hv1 hcl1 (fun t ht hW => ⟨(), trivial, rfl, zS_F hS1 ht⟩) hS1.2.2 (zl_b rfl) (zl_b rfl)
end
section
set_option maxHeartbeats 4000000 in
set_option maxRecDepth 100000 in
/-- setLimit of the model: no such account -/
theorem m_setLimit (l : Launch) (dC : Nat → ClassId) (dI : Nat → Nat → Nat) (sz t : Nat) (h0 ac : Nat) (cu : Value) (dd th : Int32) (ed : Value) (a1 a2 : Int32) : Met l yX8_setLimit ws_X8_setLimit ({ frames := 3, cells := 0, slots := 0, locals := 55 }) (zA dC dI [(h0, .inr (7, [.ref ac, cu, .int dd, .int th])), (ac, .inr (0, [.int 0, ed, .int 0]))] [] sz t [.ref h0, .int a1, .int a2]) (va_Qi (fun r (_ : Unit) => True) (fun _ t9 => zB dC dI (va_A [(h0, .inr (7, [.ref ac, cu, .int dd, .int th])), (ac, .inr (0, [.int 0, ed, .int 0]))] sz) [(h0, .inr (7, [.ref ac, cu, .int dd, .int 1])), (ac, .inr (0, [.int 0, ed, .int 0]))] [] t9) (va_A [(h0, .inr (7, [.ref ac, cu, .int dd, .int th])), (ac, .inr (0, [.int 0, ed, .int 0]))] sz)) 0 0 (va_A [(h0, .inr (7, [.ref ac, cu, .int dd, .int th])), (ac, .inr (0, [.int 0, ed, .int 0]))] sz) := by
  refine Met.ofW (cc := cX8_setLimit) (maxL := 4) (ret := (some .int)) (by decide) rfl ?_
  intro p e s m args below meth c s₁ B hml hv
  obtain ⟨rfl, hsz, hP, hK, hD0, hQ⟩ := hv
  have hx := B.exec
  have hb := B.bytes
  have hr := B.returns
  have hts : ∀ w ∈ zG, w.before _ s = true := fun w h => atoms_spec (ws := ws_X8_setLimit) B.pre w (List.mem_cons_of_mem _ h)
  have hown : s.vm.findClass RX8 = some m.cls := findClass_of_methodNamed B.named
  have hlocks := B.notSynchronized
  subst hsz
  have hD := hD0.self (sz := s.heap.size)
  generalize hAe : va_A [(h0, .inr (7, [.ref ac, cu, .int dd, .int th])), (ac, .inr (0, [.int 0, ed, .int 0]))] s.heap.size = A at hD hQ ⊢
  have hA : ∀ q : Nat, s.heap.size ≤ q → A q := fun q h => by rw [← hAe]; exact Or.inr h
  have hS : va_S A s.heap s.heap [] := va_S.rf
  have hP : va_P (dC, dI) zc [(h0, .inr (7, [.ref ac, cu, .int dd, .int th])), (ac, .inr (0, [.int 0, ed, .int 0]))] s.heap := hP
  have hl := lv_entry ([.ref h0, .int a1, .int a2]) (n := 4) (Nat.le_of_ble_eq_true rfl)
  rw [lg_entry_eq]
  generalize (lg_sl ([.ref h0, .int a1, .int a2]) ++ List.replicate (4 - (lg_sl ([.ref h0, .int a1, .int a2])).length) Slot.unset).toArray = ls at hl ⊢
  have hl : lv_has ls 4 [(0, .ref h0), (1, .int a1), (2, .int a2)] := hl
  refine lv_aload_n hx hb dX8_setLimit_0 rfl (lv_at hl 0 rfl) ?_
  refine lv_aload_n hx hb dX8_setLimit_1 rfl (lv_at hl 0 rfl) ?_
  refine lv_iload_n hx hb dX8_setLimit_2 rfl (lv_at hl 1 rfl) ?_
  refine vp_callSi (W.runV (As := [.int a1]) (rest := [.ref h0]) ⟨hx, hb, hml, hown, hts⟩ (c_isAccount l dC dI s.heap.size t h0 ac cu dd th a1 ed) (cwV 1 hts (zg_V kw_1432 kw_1434 kw_41 kw_70 kw_1435) rfl rfl rfl (by decide +kernel) ⟨Nat.le_of_ble_eq_true rfl, Nat.le_of_ble_eq_true rfl⟩) ⟨zA_blind, va_recv hK hP (ci := 7) (q0 := 0) rfl rfl, zA_pre hP hD hS hK hQ hA [0, 1] rfl rfl (by decide) [] rfl⟩ rfl rfl hl.1 rfl (lv_room (Nat.le_of_ble_eq_true rfl)) dX8_setLimit_3 ⟨zl_b rfl, zl_b rfl⟩) (fun r hr => ?_)
  subst hr
  refine lv_iconst (v := 1) hx hb dX8_setLimit_6 (by decide) ?_
  have hFc := va_free (wc := [(h0, .inr (7, [.ref ac, cu, .int dd, .int th]))]) hD hS hA [0] rfl
  refine va_calli (va_runV (As := [.int 0, .int 1]) (rest := []) ⟨hx, hb, hml, hown, hts⟩ (c_no0 l dC dI s.heap.size t h0 (.ref ac) cu dd th 1) (cwV 2 hts (zg_V kw_1377 kw_1379 kw_40 kw_70 kw_1380) rfl rfl rfl (by decide +kernel) ⟨Nat.le_of_ble_eq_true rfl, Nat.le_of_ble_eq_true rfl⟩) ⟨zA_blind, va_recv hK hP (ci := 7) (q0 := 0) rfl rfl, zA_pre hP hD hS hK hQ hA [0] rfl rfl (by decide) [] rfl⟩ rfl rfl hl.1 rfl (lv_room (Nat.le_of_ble_eq_true rfl)) dX8_setLimit_7 ⟨zl_b rfl, zl_b rfl⟩) hS (fun q _ h => hFc q h) hFc (fun r_1 u t9 H1 locs ht hvm hw hB hz1 hk1 hS => ?_)
  obtain ⟨hP1, hK1, hD1⟩ := hB
  rw [ht] at hP1
  have hK1 := va_K.moved hvm.symm hK1
  obtain ⟨hP, hD⟩ := va_join (wr := [(ac, .inr (0, [.int 0, ed, .int 0]))]) (w1 := [(h0, .inr (7, [.ref ac, cu, .int dd, .int 1]))]) hP hD [0] [1] rfl rfl (by decide) (by decide) hk1 hFc hP1 hD1
  have hK := (hK.sub (tys' := []) [] rfl).app hK1
  generalize H1 = H at hP hS ⊢
  have hP : va_P (dC, dI) zc [(ac, .inr (0, [.int 0, ed, .int 0])), (h0, .inr (7, [.ref ac, cu, .int dd, .int 1]))] H := hP
  have hD : va_D A [(ac, .inr (0, [.int 0, ed, .int 0])), (h0, .inr (7, [.ref ac, cu, .int dd, .int 1]))] := hD
  have hK : va_K (dC, dI) zc [] s := hK
  obtain rfl : r_1 = 1 := hw
  refine lv_if_ne (tgt := 28) hx hb dX8_setLimit_10 (by decide) (fun c_2 => ?_) (fun c_2 => absurd c_2 (by decide))
  refine lv_iconst (v := 0) hx hb dX8_setLimit_28 (by decide) ?_
  have hP9 := hP.sub (ws' := [(h0, .inr (7, [.ref ac, cu, .int dd, .int 1])), (ac, .inr (0, [.int 0, ed, .int 0]))]) [1, 0] rfl
  have hD9 := hD.sub (ws' := [(h0, .inr (7, [.ref ac, cu, .int dd, .int 1])), (ac, .inr (0, [.int 0, ed, .int 0]))]) [1, 0] (by decide) rfl
  have hK9 := hK.sub (tys' := []) [] rfl
  exact W.iret hx hb hr (fun t ht hW => ⟨⟨_, (), rfl, trivial, by rw [ht]; exact hP9, va_K.moved hW.alike hK9, hD9⟩, hS.F ht⟩) hS.2.2 dX8_setLimit_29
set_option maxHeartbeats 4000000 in
set_option maxRecDepth 100000 in
/-- block of the model: no such account -/
theorem m_block (l : Launch) (dC : Nat → ClassId) (dI : Nat → Nat → Nat) (sz t : Nat) (h0 ac : Nat) (cu : Value) (dd th : Int32) (ed : Value) (a1 a2 : Int32) : Met l yX8_block ws_X8_block ({ frames := 3, cells := 0, slots := 0, locals := 55 }) (zA dC dI [(h0, .inr (7, [.ref ac, cu, .int dd, .int th])), (ac, .inr (0, [.int 0, ed, .int 0]))] [] sz t [.ref h0, .int a1, .int a2]) (va_Qi (fun r (_ : Unit) => True) (fun _ t9 => zB dC dI (va_A [(h0, .inr (7, [.ref ac, cu, .int dd, .int th])), (ac, .inr (0, [.int 0, ed, .int 0]))] sz) [(h0, .inr (7, [.ref ac, cu, .int dd, .int 1])), (ac, .inr (0, [.int 0, ed, .int 0]))] [] t9) (va_A [(h0, .inr (7, [.ref ac, cu, .int dd, .int th])), (ac, .inr (0, [.int 0, ed, .int 0]))] sz)) 0 0 (va_A [(h0, .inr (7, [.ref ac, cu, .int dd, .int th])), (ac, .inr (0, [.int 0, ed, .int 0]))] sz) := by
  refine Met.ofW (cc := cX8_block) (maxL := 4) (ret := (some .boolean)) (by decide) rfl ?_
  intro p e s m args below meth c s₁ B hml hv
  obtain ⟨rfl, hsz, hP, hK, hD0, hQ⟩ := hv
  have hx := B.exec
  have hb := B.bytes
  have hr := B.returns
  have hts : ∀ w ∈ zG, w.before _ s = true := fun w h => atoms_spec (ws := ws_X8_block) B.pre w (List.mem_cons_of_mem _ h)
  have hown : s.vm.findClass RX8 = some m.cls := findClass_of_methodNamed B.named
  have hlocks := B.notSynchronized
  subst hsz
  have hD := hD0.self (sz := s.heap.size)
  generalize hAe : va_A [(h0, .inr (7, [.ref ac, cu, .int dd, .int th])), (ac, .inr (0, [.int 0, ed, .int 0]))] s.heap.size = A at hD hQ ⊢
  have hA : ∀ q : Nat, s.heap.size ≤ q → A q := fun q h => by rw [← hAe]; exact Or.inr h
  have hS : va_S A s.heap s.heap [] := va_S.rf
  have hP : va_P (dC, dI) zc [(h0, .inr (7, [.ref ac, cu, .int dd, .int th])), (ac, .inr (0, [.int 0, ed, .int 0]))] s.heap := hP
  have hl := lv_entry ([.ref h0, .int a1, .int a2]) (n := 4) (Nat.le_of_ble_eq_true rfl)
  rw [lg_entry_eq]
  generalize (lg_sl ([.ref h0, .int a1, .int a2]) ++ List.replicate (4 - (lg_sl ([.ref h0, .int a1, .int a2])).length) Slot.unset).toArray = ls at hl ⊢
  have hl : lv_has ls 4 [(0, .ref h0), (1, .int a1), (2, .int a2)] := hl
  refine lv_aload_n hx hb dX8_block_0 rfl (lv_at hl 0 rfl) ?_
  refine lv_aload_n hx hb dX8_block_1 rfl (lv_at hl 0 rfl) ?_
  refine lv_iload_n hx hb dX8_block_2 rfl (lv_at hl 1 rfl) ?_
  refine vp_callSi (W.runV (As := [.int a1]) (rest := [.ref h0]) ⟨hx, hb, hml, hown, hts⟩ (c_isAccount l dC dI s.heap.size t h0 ac cu dd th a1 ed) (cwV 1 hts (zg_V kw_1432 kw_1434 kw_41 kw_70 kw_1435) rfl rfl rfl (by decide +kernel) ⟨Nat.le_of_ble_eq_true rfl, Nat.le_of_ble_eq_true rfl⟩) ⟨zA_blind, va_recv hK hP (ci := 7) (q0 := 0) rfl rfl, zA_pre hP hD hS hK hQ hA [0, 1] rfl rfl (by decide) [] rfl⟩ rfl rfl hl.1 rfl (lv_room (Nat.le_of_ble_eq_true rfl)) dX8_block_3 ⟨zl_b rfl, zl_b rfl⟩) (fun r hr => ?_)
  subst hr
  refine lv_iconst (v := 1) hx hb dX8_block_6 (by decide) ?_
  have hFc := va_free (wc := [(h0, .inr (7, [.ref ac, cu, .int dd, .int th]))]) hD hS hA [0] rfl
  refine va_calli (va_runV (As := [.int 0, .int 1]) (rest := []) ⟨hx, hb, hml, hown, hts⟩ (c_no0 l dC dI s.heap.size t h0 (.ref ac) cu dd th 1) (cwV 2 hts (zg_V kw_1377 kw_1379 kw_40 kw_70 kw_1380) rfl rfl rfl (by decide +kernel) ⟨Nat.le_of_ble_eq_true rfl, Nat.le_of_ble_eq_true rfl⟩) ⟨zA_blind, va_recv hK hP (ci := 7) (q0 := 0) rfl rfl, zA_pre hP hD hS hK hQ hA [0] rfl rfl (by decide) [] rfl⟩ rfl rfl hl.1 rfl (lv_room (Nat.le_of_ble_eq_true rfl)) dX8_block_7 ⟨zl_b rfl, zl_b rfl⟩) hS (fun q _ h => hFc q h) hFc (fun r_1 u t9 H1 locs ht hvm hw hB hz1 hk1 hS => ?_)
  obtain ⟨hP1, hK1, hD1⟩ := hB
  rw [ht] at hP1
  have hK1 := va_K.moved hvm.symm hK1
  obtain ⟨hP, hD⟩ := va_join (wr := [(ac, .inr (0, [.int 0, ed, .int 0]))]) (w1 := [(h0, .inr (7, [.ref ac, cu, .int dd, .int 1]))]) hP hD [0] [1] rfl rfl (by decide) (by decide) hk1 hFc hP1 hD1
  have hK := (hK.sub (tys' := []) [] rfl).app hK1
  generalize H1 = H at hP hS ⊢
  have hP : va_P (dC, dI) zc [(ac, .inr (0, [.int 0, ed, .int 0])), (h0, .inr (7, [.ref ac, cu, .int dd, .int 1]))] H := hP
  have hD : va_D A [(ac, .inr (0, [.int 0, ed, .int 0])), (h0, .inr (7, [.ref ac, cu, .int dd, .int 1]))] := hD
  have hK : va_K (dC, dI) zc [] s := hK
  obtain rfl : r_1 = 1 := hw
  refine lv_if_eq (tgt := 15) hx hb dX8_block_10 (by decide) (fun c_2 => absurd c_2 (by decide)) (fun c_2 => ?_)
  refine lv_iconst (v := 0) hx hb dX8_block_13 (by decide) ?_
  have hP9 := hP.sub (ws' := [(h0, .inr (7, [.ref ac, cu, .int dd, .int 1])), (ac, .inr (0, [.int 0, ed, .int 0]))]) [1, 0] rfl
  have hD9 := hD.sub (ws' := [(h0, .inr (7, [.ref ac, cu, .int dd, .int 1])), (ac, .inr (0, [.int 0, ed, .int 0]))]) [1, 0] (by decide) rfl
  have hK9 := hK.sub (tys' := []) [] rfl
  exact W.zret (ty := .boolean) hx hb hr rfl (fun t ht hW => ⟨⟨_, (), rfl, trivial, by rw [ht]; exact hP9, va_K.moved hW.alike hK9, hD9⟩, hS.F ht⟩) hS.2.2 dX8_block_14
set_option maxHeartbeats 4000000 in
set_option maxRecDepth 100000 in
/-- setRate of the model: no such account -/
theorem m_setRate (l : Launch) (dC : Nat → ClassId) (dI : Nat → Nat → Nat) (sz t : Nat) (h0 ac : Nat) (cu : Value) (dd th : Int32) (ed : Value) (a1 a2 a3 : Int32) : Met l yX8_setRate ws_X8_setRate ({ frames := 3, cells := 0, slots := 0, locals := 55 }) (zA dC dI [(h0, .inr (7, [.ref ac, cu, .int dd, .int th])), (ac, .inr (0, [.int 0, ed, .int 0]))] [] sz t [.ref h0, .int a1, .int a2, .int a3]) (va_Qi (fun r (_ : Unit) => True) (fun _ t9 => zB dC dI (va_A [(h0, .inr (7, [.ref ac, cu, .int dd, .int th])), (ac, .inr (0, [.int 0, ed, .int 0]))] sz) [(h0, .inr (7, [.ref ac, cu, .int dd, .int 1])), (ac, .inr (0, [.int 0, ed, .int 0]))] [] t9) (va_A [(h0, .inr (7, [.ref ac, cu, .int dd, .int th])), (ac, .inr (0, [.int 0, ed, .int 0]))] sz)) 0 0 (va_A [(h0, .inr (7, [.ref ac, cu, .int dd, .int th])), (ac, .inr (0, [.int 0, ed, .int 0]))] sz) := by
  refine Met.ofW (cc := cX8_setRate) (maxL := 4) (ret := (some .int)) (by decide) rfl ?_
  intro p e s m args below meth c s₁ B hml hv
  obtain ⟨rfl, hsz, hP, hK, hD0, hQ⟩ := hv
  have hx := B.exec
  have hb := B.bytes
  have hr := B.returns
  have hts : ∀ w ∈ zG, w.before _ s = true := fun w h => atoms_spec (ws := ws_X8_setRate) B.pre w (List.mem_cons_of_mem _ h)
  have hown : s.vm.findClass RX8 = some m.cls := findClass_of_methodNamed B.named
  have hlocks := B.notSynchronized
  subst hsz
  have hD := hD0.self (sz := s.heap.size)
  generalize hAe : va_A [(h0, .inr (7, [.ref ac, cu, .int dd, .int th])), (ac, .inr (0, [.int 0, ed, .int 0]))] s.heap.size = A at hD hQ ⊢
  have hA : ∀ q : Nat, s.heap.size ≤ q → A q := fun q h => by rw [← hAe]; exact Or.inr h
  have hS : va_S A s.heap s.heap [] := va_S.rf
  have hP : va_P (dC, dI) zc [(h0, .inr (7, [.ref ac, cu, .int dd, .int th])), (ac, .inr (0, [.int 0, ed, .int 0]))] s.heap := hP
  have hl := lv_entry ([.ref h0, .int a1, .int a2, .int a3]) (n := 4) (Nat.le_of_ble_eq_true rfl)
  rw [lg_entry_eq]
  generalize (lg_sl ([.ref h0, .int a1, .int a2, .int a3]) ++ List.replicate (4 - (lg_sl ([.ref h0, .int a1, .int a2, .int a3])).length) Slot.unset).toArray = ls at hl ⊢
  have hl : lv_has ls 4 [(0, .ref h0), (1, .int a1), (2, .int a2), (3, .int a3)] := hl
  refine lv_aload_n hx hb dX8_setRate_0 rfl (lv_at hl 0 rfl) ?_
  refine lv_aload_n hx hb dX8_setRate_1 rfl (lv_at hl 0 rfl) ?_
  refine lv_iload_n hx hb dX8_setRate_2 rfl (lv_at hl 1 rfl) ?_
  refine vp_callSi (W.runV (As := [.int a1]) (rest := [.ref h0]) ⟨hx, hb, hml, hown, hts⟩ (c_isAccount l dC dI s.heap.size t h0 ac cu dd th a1 ed) (cwV 1 hts (zg_V kw_1432 kw_1434 kw_41 kw_70 kw_1435) rfl rfl rfl (by decide +kernel) ⟨Nat.le_of_ble_eq_true rfl, Nat.le_of_ble_eq_true rfl⟩) ⟨zA_blind, va_recv hK hP (ci := 7) (q0 := 0) rfl rfl, zA_pre hP hD hS hK hQ hA [0, 1] rfl rfl (by decide) [] rfl⟩ rfl rfl hl.1 rfl (lv_room (Nat.le_of_ble_eq_true rfl)) dX8_setRate_3 ⟨zl_b rfl, zl_b rfl⟩) (fun r hr => ?_)
  subst hr
  refine lv_iconst (v := 1) hx hb dX8_setRate_6 (by decide) ?_
  have hFc := va_free (wc := [(h0, .inr (7, [.ref ac, cu, .int dd, .int th]))]) hD hS hA [0] rfl
  refine va_calli (va_runV (As := [.int 0, .int 1]) (rest := []) ⟨hx, hb, hml, hown, hts⟩ (c_no0 l dC dI s.heap.size t h0 (.ref ac) cu dd th 1) (cwV 2 hts (zg_V kw_1377 kw_1379 kw_40 kw_70 kw_1380) rfl rfl rfl (by decide +kernel) ⟨Nat.le_of_ble_eq_true rfl, Nat.le_of_ble_eq_true rfl⟩) ⟨zA_blind, va_recv hK hP (ci := 7) (q0 := 0) rfl rfl, zA_pre hP hD hS hK hQ hA [0] rfl rfl (by decide) [] rfl⟩ rfl rfl hl.1 rfl (lv_room (Nat.le_of_ble_eq_true rfl)) dX8_setRate_7 ⟨zl_b rfl, zl_b rfl⟩) hS (fun q _ h => hFc q h) hFc (fun r_1 u t9 H1 locs ht hvm hw hB hz1 hk1 hS => ?_)
  obtain ⟨hP1, hK1, hD1⟩ := hB
  rw [ht] at hP1
  have hK1 := va_K.moved hvm.symm hK1
  obtain ⟨hP, hD⟩ := va_join (wr := [(ac, .inr (0, [.int 0, ed, .int 0]))]) (w1 := [(h0, .inr (7, [.ref ac, cu, .int dd, .int 1]))]) hP hD [0] [1] rfl rfl (by decide) (by decide) hk1 hFc hP1 hD1
  have hK := (hK.sub (tys' := []) [] rfl).app hK1
  generalize H1 = H at hP hS ⊢
  have hP : va_P (dC, dI) zc [(ac, .inr (0, [.int 0, ed, .int 0])), (h0, .inr (7, [.ref ac, cu, .int dd, .int 1]))] H := hP
  have hD : va_D A [(ac, .inr (0, [.int 0, ed, .int 0])), (h0, .inr (7, [.ref ac, cu, .int dd, .int 1]))] := hD
  have hK : va_K (dC, dI) zc [] s := hK
  obtain rfl : r_1 = 1 := hw
  refine lv_if_ne (tgt := 57) hx hb dX8_setRate_10 (by decide) (fun c_2 => ?_) (fun c_2 => absurd c_2 (by decide))
  refine lv_iconst (v := 0) hx hb dX8_setRate_57 (by decide) ?_
  have hP9 := hP.sub (ws' := [(h0, .inr (7, [.ref ac, cu, .int dd, .int 1])), (ac, .inr (0, [.int 0, ed, .int 0]))]) [1, 0] rfl
  have hD9 := hD.sub (ws' := [(h0, .inr (7, [.ref ac, cu, .int dd, .int 1])), (ac, .inr (0, [.int 0, ed, .int 0]))]) [1, 0] (by decide) rfl
  have hK9 := hK.sub (tys' := []) [] rfl
  exact W.iret hx hb hr (fun t ht hW => ⟨⟨_, (), rfl, trivial, by rw [ht]; exact hP9, va_K.moved hW.alike hK9, hD9⟩, hS.F ht⟩) hS.2.2 dX8_setRate_58
set_option maxHeartbeats 4000000 in
set_option maxRecDepth 100000 in
/-- promote of the model: no such account -/
theorem m_promote (l : Launch) (dC : Nat → ClassId) (dI : Nat → Nat → Nat) (sz t : Nat) (h0 ac : Nat) (cu : Value) (dd th : Int32) (ed : Value) (a1 a2 a3 : Int32) : Met l yX8_promote ws_X8_promote ({ frames := 3, cells := 0, slots := 0, locals := 55 }) (zA dC dI [(h0, .inr (7, [.ref ac, cu, .int dd, .int th])), (ac, .inr (0, [.int 0, ed, .int 0]))] [] sz t [.ref h0, .int a1, .int a2, .int a3]) (va_Qi (fun r (_ : Unit) => True) (fun _ t9 => zB dC dI (va_A [(h0, .inr (7, [.ref ac, cu, .int dd, .int th])), (ac, .inr (0, [.int 0, ed, .int 0]))] sz) [(h0, .inr (7, [.ref ac, cu, .int dd, .int 1])), (ac, .inr (0, [.int 0, ed, .int 0]))] [] t9) (va_A [(h0, .inr (7, [.ref ac, cu, .int dd, .int th])), (ac, .inr (0, [.int 0, ed, .int 0]))] sz)) 0 0 (va_A [(h0, .inr (7, [.ref ac, cu, .int dd, .int th])), (ac, .inr (0, [.int 0, ed, .int 0]))] sz) := by
  refine Met.ofW (cc := cX8_promote) (maxL := 4) (ret := (some .int)) (by decide) rfl ?_
  intro p e s m args below meth c s₁ B hml hv
  obtain ⟨rfl, hsz, hP, hK, hD0, hQ⟩ := hv
  have hx := B.exec
  have hb := B.bytes
  have hr := B.returns
  have hts : ∀ w ∈ zG, w.before _ s = true := fun w h => atoms_spec (ws := ws_X8_promote) B.pre w (List.mem_cons_of_mem _ h)
  have hown : s.vm.findClass RX8 = some m.cls := findClass_of_methodNamed B.named
  have hlocks := B.notSynchronized
  subst hsz
  have hD := hD0.self (sz := s.heap.size)
  generalize hAe : va_A [(h0, .inr (7, [.ref ac, cu, .int dd, .int th])), (ac, .inr (0, [.int 0, ed, .int 0]))] s.heap.size = A at hD hQ ⊢
  have hA : ∀ q : Nat, s.heap.size ≤ q → A q := fun q h => by rw [← hAe]; exact Or.inr h
  have hS : va_S A s.heap s.heap [] := va_S.rf
  have hP : va_P (dC, dI) zc [(h0, .inr (7, [.ref ac, cu, .int dd, .int th])), (ac, .inr (0, [.int 0, ed, .int 0]))] s.heap := hP
  have hl := lv_entry ([.ref h0, .int a1, .int a2, .int a3]) (n := 4) (Nat.le_of_ble_eq_true rfl)
  rw [lg_entry_eq]
  generalize (lg_sl ([.ref h0, .int a1, .int a2, .int a3]) ++ List.replicate (4 - (lg_sl ([.ref h0, .int a1, .int a2, .int a3])).length) Slot.unset).toArray = ls at hl ⊢
  have hl : lv_has ls 4 [(0, .ref h0), (1, .int a1), (2, .int a2), (3, .int a3)] := hl
  refine lv_aload_n hx hb dX8_promote_0 rfl (lv_at hl 0 rfl) ?_
  refine lv_aload_n hx hb dX8_promote_1 rfl (lv_at hl 0 rfl) ?_
  refine lv_iload_n hx hb dX8_promote_2 rfl (lv_at hl 1 rfl) ?_
  refine vp_callSi (W.runV (As := [.int a1]) (rest := [.ref h0]) ⟨hx, hb, hml, hown, hts⟩ (c_isAccount l dC dI s.heap.size t h0 ac cu dd th a1 ed) (cwV 1 hts (zg_V kw_1432 kw_1434 kw_41 kw_70 kw_1435) rfl rfl rfl (by decide +kernel) ⟨Nat.le_of_ble_eq_true rfl, Nat.le_of_ble_eq_true rfl⟩) ⟨zA_blind, va_recv hK hP (ci := 7) (q0 := 0) rfl rfl, zA_pre hP hD hS hK hQ hA [0, 1] rfl rfl (by decide) [] rfl⟩ rfl rfl hl.1 rfl (lv_room (Nat.le_of_ble_eq_true rfl)) dX8_promote_3 ⟨zl_b rfl, zl_b rfl⟩) (fun r hr => ?_)
  subst hr
  refine lv_iconst (v := 1) hx hb dX8_promote_6 (by decide) ?_
  have hFc := va_free (wc := [(h0, .inr (7, [.ref ac, cu, .int dd, .int th]))]) hD hS hA [0] rfl
  refine va_calli (va_runV (As := [.int 0, .int 1]) (rest := []) ⟨hx, hb, hml, hown, hts⟩ (c_no0 l dC dI s.heap.size t h0 (.ref ac) cu dd th 1) (cwV 2 hts (zg_V kw_1377 kw_1379 kw_40 kw_70 kw_1380) rfl rfl rfl (by decide +kernel) ⟨Nat.le_of_ble_eq_true rfl, Nat.le_of_ble_eq_true rfl⟩) ⟨zA_blind, va_recv hK hP (ci := 7) (q0 := 0) rfl rfl, zA_pre hP hD hS hK hQ hA [0] rfl rfl (by decide) [] rfl⟩ rfl rfl hl.1 rfl (lv_room (Nat.le_of_ble_eq_true rfl)) dX8_promote_7 ⟨zl_b rfl, zl_b rfl⟩) hS (fun q _ h => hFc q h) hFc (fun r_1 u t9 H1 locs ht hvm hw hB hz1 hk1 hS => ?_)
  obtain ⟨hP1, hK1, hD1⟩ := hB
  rw [ht] at hP1
  have hK1 := va_K.moved hvm.symm hK1
  obtain ⟨hP, hD⟩ := va_join (wr := [(ac, .inr (0, [.int 0, ed, .int 0]))]) (w1 := [(h0, .inr (7, [.ref ac, cu, .int dd, .int 1]))]) hP hD [0] [1] rfl rfl (by decide) (by decide) hk1 hFc hP1 hD1
  have hK := (hK.sub (tys' := []) [] rfl).app hK1
  generalize H1 = H at hP hS ⊢
  have hP : va_P (dC, dI) zc [(ac, .inr (0, [.int 0, ed, .int 0])), (h0, .inr (7, [.ref ac, cu, .int dd, .int 1]))] H := hP
  have hD : va_D A [(ac, .inr (0, [.int 0, ed, .int 0])), (h0, .inr (7, [.ref ac, cu, .int dd, .int 1]))] := hD
  have hK : va_K (dC, dI) zc [] s := hK
  obtain rfl : r_1 = 1 := hw
  refine lv_if_ne (tgt := 61) hx hb dX8_promote_10 (by decide) (fun c_2 => ?_) (fun c_2 => absurd c_2 (by decide))
  refine lv_iconst (v := 0) hx hb dX8_promote_61 (by decide) ?_
  have hP9 := hP.sub (ws' := [(h0, .inr (7, [.ref ac, cu, .int dd, .int 1])), (ac, .inr (0, [.int 0, ed, .int 0]))]) [1, 0] rfl
  have hD9 := hD.sub (ws' := [(h0, .inr (7, [.ref ac, cu, .int dd, .int 1])), (ac, .inr (0, [.int 0, ed, .int 0]))]) [1, 0] (by decide) rfl
  have hK9 := hK.sub (tys' := []) [] rfl
  exact W.iret hx hb hr (fun t ht hW => ⟨⟨_, (), rfl, trivial, by rw [ht]; exact hP9, va_K.moved hW.alike hK9, hD9⟩, hS.F ht⟩) hS.2.2 dX8_promote_62
set_option maxHeartbeats 4000000 in
set_option maxRecDepth 100000 in
/-- buy of the model: no such account -/
theorem m_buy (l : Launch) (dC : Nat → ClassId) (dI : Nat → Nat → Nat) (sz t : Nat) (h0 ac : Nat) (cu : Value) (dd th : Int32) (ed : Value) (a1 a2 a3 : Int32) : Met l yX8_buy ws_X8_buy ({ frames := 3, cells := 0, slots := 0, locals := 55 }) (zA dC dI [(h0, .inr (7, [.ref ac, cu, .int dd, .int th])), (ac, .inr (0, [.int 0, ed, .int 0]))] [] sz t [.ref h0, .int a1, .int a2, .int a3]) (va_Qi (fun r (_ : Unit) => True) (fun _ t9 => zB dC dI (va_A [(h0, .inr (7, [.ref ac, cu, .int dd, .int th])), (ac, .inr (0, [.int 0, ed, .int 0]))] sz) [(h0, .inr (7, [.ref ac, cu, .int dd, .int 1])), (ac, .inr (0, [.int 0, ed, .int 0]))] [] t9) (va_A [(h0, .inr (7, [.ref ac, cu, .int dd, .int th])), (ac, .inr (0, [.int 0, ed, .int 0]))] sz)) 0 0 (va_A [(h0, .inr (7, [.ref ac, cu, .int dd, .int th])), (ac, .inr (0, [.int 0, ed, .int 0]))] sz) := by
  refine Met.ofW (cc := cX8_buy) (maxL := 4) (ret := (some .int)) (by decide) rfl ?_
  intro p e s m args below meth c s₁ B hml hv
  obtain ⟨rfl, hsz, hP, hK, hD0, hQ⟩ := hv
  have hx := B.exec
  have hb := B.bytes
  have hr := B.returns
  have hts : ∀ w ∈ zG, w.before _ s = true := fun w h => atoms_spec (ws := ws_X8_buy) B.pre w (List.mem_cons_of_mem _ h)
  have hown : s.vm.findClass RX8 = some m.cls := findClass_of_methodNamed B.named
  have hlocks := B.notSynchronized
  subst hsz
  have hD := hD0.self (sz := s.heap.size)
  generalize hAe : va_A [(h0, .inr (7, [.ref ac, cu, .int dd, .int th])), (ac, .inr (0, [.int 0, ed, .int 0]))] s.heap.size = A at hD hQ ⊢
  have hA : ∀ q : Nat, s.heap.size ≤ q → A q := fun q h => by rw [← hAe]; exact Or.inr h
  have hS : va_S A s.heap s.heap [] := va_S.rf
  have hP : va_P (dC, dI) zc [(h0, .inr (7, [.ref ac, cu, .int dd, .int th])), (ac, .inr (0, [.int 0, ed, .int 0]))] s.heap := hP
  have hl := lv_entry ([.ref h0, .int a1, .int a2, .int a3]) (n := 4) (Nat.le_of_ble_eq_true rfl)
  rw [lg_entry_eq]
  generalize (lg_sl ([.ref h0, .int a1, .int a2, .int a3]) ++ List.replicate (4 - (lg_sl ([.ref h0, .int a1, .int a2, .int a3])).length) Slot.unset).toArray = ls at hl ⊢
  have hl : lv_has ls 4 [(0, .ref h0), (1, .int a1), (2, .int a2), (3, .int a3)] := hl
  refine lv_aload_n hx hb dX8_buy_0 rfl (lv_at hl 0 rfl) ?_
  refine lv_aload_n hx hb dX8_buy_1 rfl (lv_at hl 0 rfl) ?_
  refine lv_iload_n hx hb dX8_buy_2 rfl (lv_at hl 1 rfl) ?_
  refine vp_callSi (W.runV (As := [.int a1]) (rest := [.ref h0]) ⟨hx, hb, hml, hown, hts⟩ (c_isAccount l dC dI s.heap.size t h0 ac cu dd th a1 ed) (cwV 1 hts (zg_V kw_1432 kw_1434 kw_41 kw_70 kw_1435) rfl rfl rfl (by decide +kernel) ⟨Nat.le_of_ble_eq_true rfl, Nat.le_of_ble_eq_true rfl⟩) ⟨zA_blind, va_recv hK hP (ci := 7) (q0 := 0) rfl rfl, zA_pre hP hD hS hK hQ hA [0, 1] rfl rfl (by decide) [] rfl⟩ rfl rfl hl.1 rfl (lv_room (Nat.le_of_ble_eq_true rfl)) dX8_buy_3 ⟨zl_b rfl, zl_b rfl⟩) (fun r hr => ?_)
  subst hr
  refine lv_iconst (v := 1) hx hb dX8_buy_6 (by decide) ?_
  have hFc := va_free (wc := [(h0, .inr (7, [.ref ac, cu, .int dd, .int th]))]) hD hS hA [0] rfl
  refine va_calli (va_runV (As := [.int 0, .int 1]) (rest := []) ⟨hx, hb, hml, hown, hts⟩ (c_no0 l dC dI s.heap.size t h0 (.ref ac) cu dd th 1) (cwV 2 hts (zg_V kw_1377 kw_1379 kw_40 kw_70 kw_1380) rfl rfl rfl (by decide +kernel) ⟨Nat.le_of_ble_eq_true rfl, Nat.le_of_ble_eq_true rfl⟩) ⟨zA_blind, va_recv hK hP (ci := 7) (q0 := 0) rfl rfl, zA_pre hP hD hS hK hQ hA [0] rfl rfl (by decide) [] rfl⟩ rfl rfl hl.1 rfl (lv_room (Nat.le_of_ble_eq_true rfl)) dX8_buy_7 ⟨zl_b rfl, zl_b rfl⟩) hS (fun q _ h => hFc q h) hFc (fun r_1 u t9 H1 locs ht hvm hw hB hz1 hk1 hS => ?_)
  obtain ⟨hP1, hK1, hD1⟩ := hB
  rw [ht] at hP1
  have hK1 := va_K.moved hvm.symm hK1
  obtain ⟨hP, hD⟩ := va_join (wr := [(ac, .inr (0, [.int 0, ed, .int 0]))]) (w1 := [(h0, .inr (7, [.ref ac, cu, .int dd, .int 1]))]) hP hD [0] [1] rfl rfl (by decide) (by decide) hk1 hFc hP1 hD1
  have hK := (hK.sub (tys' := []) [] rfl).app hK1
  generalize H1 = H at hP hS ⊢
  have hP : va_P (dC, dI) zc [(ac, .inr (0, [.int 0, ed, .int 0])), (h0, .inr (7, [.ref ac, cu, .int dd, .int 1]))] H := hP
  have hD : va_D A [(ac, .inr (0, [.int 0, ed, .int 0])), (h0, .inr (7, [.ref ac, cu, .int dd, .int 1]))] := hD
  have hK : va_K (dC, dI) zc [] s := hK
  obtain rfl : r_1 = 1 := hw
  refine lv_if_ne (tgt := 83) hx hb dX8_buy_10 (by decide) (fun c_2 => ?_) (fun c_2 => absurd c_2 (by decide))
  refine lv_iconst (v := 0) hx hb dX8_buy_83 (by decide) ?_
  have hP9 := hP.sub (ws' := [(h0, .inr (7, [.ref ac, cu, .int dd, .int 1])), (ac, .inr (0, [.int 0, ed, .int 0]))]) [1, 0] rfl
  have hD9 := hD.sub (ws' := [(h0, .inr (7, [.ref ac, cu, .int dd, .int 1])), (ac, .inr (0, [.int 0, ed, .int 0]))]) [1, 0] (by decide) rfl
  have hK9 := hK.sub (tys' := []) [] rfl
  exact W.iret hx hb hr (fun t ht hW => ⟨⟨_, (), rfl, trivial, by rw [ht]; exact hP9, va_K.moved hW.alike hK9, hD9⟩, hS.F ht⟩) hS.2.2 dX8_buy_84
set_option maxHeartbeats 4000000 in
set_option maxRecDepth 100000 in
/-- buyOn of the model: no such account -/
theorem m_buyOn (l : Launch) (dC : Nat → ClassId) (dI : Nat → Nat → Nat) (sz t : Nat) (h0 ac : Nat) (cu : Value) (dd th : Int32) (ed : Value) (a1 a2 a3 a4 : Int32) : Met l yX8_buyOn ws_X8_buyOn ({ frames := 3, cells := 0, slots := 0, locals := 55 }) (zA dC dI [(h0, .inr (7, [.ref ac, cu, .int dd, .int th])), (ac, .inr (0, [.int 0, ed, .int 0]))] [] sz t [.ref h0, .int a1, .int a2, .int a3, .int a4]) (va_Qi (fun r (_ : Unit) => True) (fun _ t9 => zB dC dI (va_A [(h0, .inr (7, [.ref ac, cu, .int dd, .int th])), (ac, .inr (0, [.int 0, ed, .int 0]))] sz) [(h0, .inr (7, [.ref ac, cu, .int dd, .int 1])), (ac, .inr (0, [.int 0, ed, .int 0]))] [] t9) (va_A [(h0, .inr (7, [.ref ac, cu, .int dd, .int th])), (ac, .inr (0, [.int 0, ed, .int 0]))] sz)) 0 0 (va_A [(h0, .inr (7, [.ref ac, cu, .int dd, .int th])), (ac, .inr (0, [.int 0, ed, .int 0]))] sz) := by
  refine Met.ofW (cc := cX8_buyOn) (maxL := 5) (ret := (some .int)) (by decide) rfl ?_
  intro p e s m args below meth c s₁ B hml hv
  obtain ⟨rfl, hsz, hP, hK, hD0, hQ⟩ := hv
  have hx := B.exec
  have hb := B.bytes
  have hr := B.returns
  have hts : ∀ w ∈ zG, w.before _ s = true := fun w h => atoms_spec (ws := ws_X8_buyOn) B.pre w (List.mem_cons_of_mem _ h)
  have hown : s.vm.findClass RX8 = some m.cls := findClass_of_methodNamed B.named
  have hlocks := B.notSynchronized
  subst hsz
  have hD := hD0.self (sz := s.heap.size)
  generalize hAe : va_A [(h0, .inr (7, [.ref ac, cu, .int dd, .int th])), (ac, .inr (0, [.int 0, ed, .int 0]))] s.heap.size = A at hD hQ ⊢
  have hA : ∀ q : Nat, s.heap.size ≤ q → A q := fun q h => by rw [← hAe]; exact Or.inr h
  have hS : va_S A s.heap s.heap [] := va_S.rf
  have hP : va_P (dC, dI) zc [(h0, .inr (7, [.ref ac, cu, .int dd, .int th])), (ac, .inr (0, [.int 0, ed, .int 0]))] s.heap := hP
  have hl := lv_entry ([.ref h0, .int a1, .int a2, .int a3, .int a4]) (n := 5) (Nat.le_of_ble_eq_true rfl)
  rw [lg_entry_eq]
  generalize (lg_sl ([.ref h0, .int a1, .int a2, .int a3, .int a4]) ++ List.replicate (5 - (lg_sl ([.ref h0, .int a1, .int a2, .int a3, .int a4])).length) Slot.unset).toArray = ls at hl ⊢
  have hl : lv_has ls 5 [(0, .ref h0), (1, .int a1), (2, .int a2), (3, .int a3), (4, .int a4)] := hl
  refine lv_aload_n hx hb dX8_buyOn_0 rfl (lv_at hl 0 rfl) ?_
  refine lv_aload_n hx hb dX8_buyOn_1 rfl (lv_at hl 0 rfl) ?_
  refine lv_iload_n hx hb dX8_buyOn_2 rfl (lv_at hl 1 rfl) ?_
  refine vp_callSi (W.runV (As := [.int a1]) (rest := [.ref h0]) ⟨hx, hb, hml, hown, hts⟩ (c_isAccount l dC dI s.heap.size t h0 ac cu dd th a1 ed) (cwV 1 hts (zg_V kw_1432 kw_1434 kw_41 kw_70 kw_1435) rfl rfl rfl (by decide +kernel) ⟨Nat.le_of_ble_eq_true rfl, Nat.le_of_ble_eq_true rfl⟩) ⟨zA_blind, va_recv hK hP (ci := 7) (q0 := 0) rfl rfl, zA_pre hP hD hS hK hQ hA [0, 1] rfl rfl (by decide) [] rfl⟩ rfl rfl hl.1 rfl (lv_room (Nat.le_of_ble_eq_true rfl)) dX8_buyOn_3 ⟨zl_b rfl, zl_b rfl⟩) (fun r hr => ?_)
  subst hr
  refine lv_iconst (v := 1) hx hb dX8_buyOn_6 (by decide) ?_
  have hFc := va_free (wc := [(h0, .inr (7, [.ref ac, cu, .int dd, .int th]))]) hD hS hA [0] rfl
  refine va_calli (va_runV (As := [.int 0, .int 1]) (rest := []) ⟨hx, hb, hml, hown, hts⟩ (c_no0 l dC dI s.heap.size t h0 (.ref ac) cu dd th 1) (cwV 2 hts (zg_V kw_1377 kw_1379 kw_40 kw_70 kw_1380) rfl rfl rfl (by decide +kernel) ⟨Nat.le_of_ble_eq_true rfl, Nat.le_of_ble_eq_true rfl⟩) ⟨zA_blind, va_recv hK hP (ci := 7) (q0 := 0) rfl rfl, zA_pre hP hD hS hK hQ hA [0] rfl rfl (by decide) [] rfl⟩ rfl rfl hl.1 rfl (lv_room (Nat.le_of_ble_eq_true rfl)) dX8_buyOn_7 ⟨zl_b rfl, zl_b rfl⟩) hS (fun q _ h => hFc q h) hFc (fun r_1 u t9 H1 locs ht hvm hw hB hz1 hk1 hS => ?_)
  obtain ⟨hP1, hK1, hD1⟩ := hB
  rw [ht] at hP1
  have hK1 := va_K.moved hvm.symm hK1
  obtain ⟨hP, hD⟩ := va_join (wr := [(ac, .inr (0, [.int 0, ed, .int 0]))]) (w1 := [(h0, .inr (7, [.ref ac, cu, .int dd, .int 1]))]) hP hD [0] [1] rfl rfl (by decide) (by decide) hk1 hFc hP1 hD1
  have hK := (hK.sub (tys' := []) [] rfl).app hK1
  generalize H1 = H at hP hS ⊢
  have hP : va_P (dC, dI) zc [(ac, .inr (0, [.int 0, ed, .int 0])), (h0, .inr (7, [.ref ac, cu, .int dd, .int 1]))] H := hP
  have hD : va_D A [(ac, .inr (0, [.int 0, ed, .int 0])), (h0, .inr (7, [.ref ac, cu, .int dd, .int 1]))] := hD
  have hK : va_K (dC, dI) zc [] s := hK
  obtain rfl : r_1 = 1 := hw
  refine lv_if_ne (tgt := 69) hx hb dX8_buyOn_10 (by decide) (fun c_2 => ?_) (fun c_2 => absurd c_2 (by decide))
  refine lv_iconst (v := 0) hx hb dX8_buyOn_69 (by decide) ?_
  have hP9 := hP.sub (ws' := [(h0, .inr (7, [.ref ac, cu, .int dd, .int 1])), (ac, .inr (0, [.int 0, ed, .int 0]))]) [1, 0] rfl
  have hD9 := hD.sub (ws' := [(h0, .inr (7, [.ref ac, cu, .int dd, .int 1])), (ac, .inr (0, [.int 0, ed, .int 0]))]) [1, 0] (by decide) rfl
  have hK9 := hK.sub (tys' := []) [] rfl
  exact W.iret hx hb hr (fun t ht hW => ⟨⟨_, (), rfl, trivial, by rw [ht]; exact hP9, va_K.moved hW.alike hK9, hD9⟩, hS.F ht⟩) hS.2.2 dX8_buyOn_70
set_option maxHeartbeats 4000000 in
set_option maxRecDepth 100000 in
/-- abroad of the model: no such account -/
theorem m_abroad (l : Launch) (dC : Nat → ClassId) (dI : Nat → Nat → Nat) (sz t : Nat) (h0 ac : Nat) (cu : Value) (dd th : Int32) (ed : Value) (a1 a2 a3 : Int32) : Met l yX8_abroad ws_X8_abroad ({ frames := 3, cells := 0, slots := 0, locals := 55 }) (zA dC dI [(h0, .inr (7, [.ref ac, cu, .int dd, .int th])), (ac, .inr (0, [.int 0, ed, .int 0]))] [] sz t [.ref h0, .int a1, .int a2, .int a3]) (va_Qi (fun r (_ : Unit) => True) (fun _ t9 => zB dC dI (va_A [(h0, .inr (7, [.ref ac, cu, .int dd, .int th])), (ac, .inr (0, [.int 0, ed, .int 0]))] sz) [(h0, .inr (7, [.ref ac, cu, .int dd, .int 1])), (ac, .inr (0, [.int 0, ed, .int 0]))] [] t9) (va_A [(h0, .inr (7, [.ref ac, cu, .int dd, .int th])), (ac, .inr (0, [.int 0, ed, .int 0]))] sz)) 0 0 (va_A [(h0, .inr (7, [.ref ac, cu, .int dd, .int th])), (ac, .inr (0, [.int 0, ed, .int 0]))] sz) := by
  refine Met.ofW (cc := cX8_abroad) (maxL := 6) (ret := (some .int)) (by decide) rfl ?_
  intro p e s m args below meth c s₁ B hml hv
  obtain ⟨rfl, hsz, hP, hK, hD0, hQ⟩ := hv
  have hx := B.exec
  have hb := B.bytes
  have hr := B.returns
  have hts : ∀ w ∈ zG, w.before _ s = true := fun w h => atoms_spec (ws := ws_X8_abroad) B.pre w (List.mem_cons_of_mem _ h)
  have hown : s.vm.findClass RX8 = some m.cls := findClass_of_methodNamed B.named
  have hlocks := B.notSynchronized
  subst hsz
  have hD := hD0.self (sz := s.heap.size)
  generalize hAe : va_A [(h0, .inr (7, [.ref ac, cu, .int dd, .int th])), (ac, .inr (0, [.int 0, ed, .int 0]))] s.heap.size = A at hD hQ ⊢
  have hA : ∀ q : Nat, s.heap.size ≤ q → A q := fun q h => by rw [← hAe]; exact Or.inr h
  have hS : va_S A s.heap s.heap [] := va_S.rf
  have hP : va_P (dC, dI) zc [(h0, .inr (7, [.ref ac, cu, .int dd, .int th])), (ac, .inr (0, [.int 0, ed, .int 0]))] s.heap := hP
  have hl := lv_entry ([.ref h0, .int a1, .int a2, .int a3]) (n := 6) (Nat.le_of_ble_eq_true rfl)
  rw [lg_entry_eq]
  generalize (lg_sl ([.ref h0, .int a1, .int a2, .int a3]) ++ List.replicate (6 - (lg_sl ([.ref h0, .int a1, .int a2, .int a3])).length) Slot.unset).toArray = ls at hl ⊢
  have hl : lv_has ls 6 [(0, .ref h0), (1, .int a1), (2, .int a2), (3, .int a3)] := hl
  refine lv_aload_n hx hb dX8_abroad_0 rfl (lv_at hl 0 rfl) ?_
  refine lv_aload_n hx hb dX8_abroad_1 rfl (lv_at hl 0 rfl) ?_
  refine lv_iload_n hx hb dX8_abroad_2 rfl (lv_at hl 1 rfl) ?_
  refine vp_callSi (W.runV (As := [.int a1]) (rest := [.ref h0]) ⟨hx, hb, hml, hown, hts⟩ (c_isAccount l dC dI s.heap.size t h0 ac cu dd th a1 ed) (cwV 1 hts (zg_V kw_1432 kw_1434 kw_41 kw_70 kw_1435) rfl rfl rfl (by decide +kernel) ⟨Nat.le_of_ble_eq_true rfl, Nat.le_of_ble_eq_true rfl⟩) ⟨zA_blind, va_recv hK hP (ci := 7) (q0 := 0) rfl rfl, zA_pre hP hD hS hK hQ hA [0, 1] rfl rfl (by decide) [] rfl⟩ rfl rfl hl.1 rfl (lv_room (Nat.le_of_ble_eq_true rfl)) dX8_abroad_3 ⟨zl_b rfl, zl_b rfl⟩) (fun r hr => ?_)
  subst hr
  refine lv_iconst (v := 1) hx hb dX8_abroad_6 (by decide) ?_
  have hFc := va_free (wc := [(h0, .inr (7, [.ref ac, cu, .int dd, .int th]))]) hD hS hA [0] rfl
  refine va_calli (va_runV (As := [.int 0, .int 1]) (rest := []) ⟨hx, hb, hml, hown, hts⟩ (c_no0 l dC dI s.heap.size t h0 (.ref ac) cu dd th 1) (cwV 2 hts (zg_V kw_1377 kw_1379 kw_40 kw_70 kw_1380) rfl rfl rfl (by decide +kernel) ⟨Nat.le_of_ble_eq_true rfl, Nat.le_of_ble_eq_true rfl⟩) ⟨zA_blind, va_recv hK hP (ci := 7) (q0 := 0) rfl rfl, zA_pre hP hD hS hK hQ hA [0] rfl rfl (by decide) [] rfl⟩ rfl rfl hl.1 rfl (lv_room (Nat.le_of_ble_eq_true rfl)) dX8_abroad_7 ⟨zl_b rfl, zl_b rfl⟩) hS (fun q _ h => hFc q h) hFc (fun r_1 u t9 H1 locs ht hvm hw hB hz1 hk1 hS => ?_)
  obtain ⟨hP1, hK1, hD1⟩ := hB
  rw [ht] at hP1
  have hK1 := va_K.moved hvm.symm hK1
  obtain ⟨hP, hD⟩ := va_join (wr := [(ac, .inr (0, [.int 0, ed, .int 0]))]) (w1 := [(h0, .inr (7, [.ref ac, cu, .int dd, .int 1]))]) hP hD [0] [1] rfl rfl (by decide) (by decide) hk1 hFc hP1 hD1
  have hK := (hK.sub (tys' := []) [] rfl).app hK1
  generalize H1 = H at hP hS ⊢
  have hP : va_P (dC, dI) zc [(ac, .inr (0, [.int 0, ed, .int 0])), (h0, .inr (7, [.ref ac, cu, .int dd, .int 1]))] H := hP
  have hD : va_D A [(ac, .inr (0, [.int 0, ed, .int 0])), (h0, .inr (7, [.ref ac, cu, .int dd, .int 1]))] := hD
  have hK : va_K (dC, dI) zc [] s := hK
  obtain rfl : r_1 = 1 := hw
  refine lv_if_ne (tgt := 46) hx hb dX8_abroad_10 (by decide) (fun c_2 => ?_) (fun c_2 => absurd c_2 (by decide))
  refine lv_iconst (v := 0) hx hb dX8_abroad_46 (by decide) ?_
  have hP9 := hP.sub (ws' := [(h0, .inr (7, [.ref ac, cu, .int dd, .int 1])), (ac, .inr (0, [.int 0, ed, .int 0]))]) [1, 0] rfl
  have hD9 := hD.sub (ws' := [(h0, .inr (7, [.ref ac, cu, .int dd, .int 1])), (ac, .inr (0, [.int 0, ed, .int 0]))]) [1, 0] (by decide) rfl
  have hK9 := hK.sub (tys' := []) [] rfl
  exact W.iret hx hb hr (fun t ht hW => ⟨⟨_, (), rfl, trivial, by rw [ht]; exact hP9, va_K.moved hW.alike hK9, hD9⟩, hS.F ht⟩) hS.2.2 dX8_abroad_47
set_option maxHeartbeats 4000000 in
set_option maxRecDepth 100000 in
/-- pay of the model: no such account -/
theorem m_pay (l : Launch) (dC : Nat → ClassId) (dI : Nat → Nat → Nat) (sz t : Nat) (h0 ac : Nat) (cu : Value) (dd th : Int32) (ed : Value) (a1 a2 : Int32) : Met l yX8_pay ws_X8_pay ({ frames := 3, cells := 0, slots := 0, locals := 55 }) (zA dC dI [(h0, .inr (7, [.ref ac, cu, .int dd, .int th])), (ac, .inr (0, [.int 0, ed, .int 0]))] [] sz t [.ref h0, .int a1, .int a2]) (va_Qi (fun r (_ : Unit) => True) (fun _ t9 => zB dC dI (va_A [(h0, .inr (7, [.ref ac, cu, .int dd, .int th])), (ac, .inr (0, [.int 0, ed, .int 0]))] sz) [(h0, .inr (7, [.ref ac, cu, .int dd, .int 1])), (ac, .inr (0, [.int 0, ed, .int 0]))] [] t9) (va_A [(h0, .inr (7, [.ref ac, cu, .int dd, .int th])), (ac, .inr (0, [.int 0, ed, .int 0]))] sz)) 0 0 (va_A [(h0, .inr (7, [.ref ac, cu, .int dd, .int th])), (ac, .inr (0, [.int 0, ed, .int 0]))] sz) := by
  refine Met.ofW (cc := cX8_pay) (maxL := 3) (ret := (some .int)) (by decide) rfl ?_
  intro p e s m args below meth c s₁ B hml hv
  obtain ⟨rfl, hsz, hP, hK, hD0, hQ⟩ := hv
  have hx := B.exec
  have hb := B.bytes
  have hr := B.returns
  have hts : ∀ w ∈ zG, w.before _ s = true := fun w h => atoms_spec (ws := ws_X8_pay) B.pre w (List.mem_cons_of_mem _ h)
  have hown : s.vm.findClass RX8 = some m.cls := findClass_of_methodNamed B.named
  have hlocks := B.notSynchronized
  subst hsz
  have hD := hD0.self (sz := s.heap.size)
  generalize hAe : va_A [(h0, .inr (7, [.ref ac, cu, .int dd, .int th])), (ac, .inr (0, [.int 0, ed, .int 0]))] s.heap.size = A at hD hQ ⊢
  have hA : ∀ q : Nat, s.heap.size ≤ q → A q := fun q h => by rw [← hAe]; exact Or.inr h
  have hS : va_S A s.heap s.heap [] := va_S.rf
  have hP : va_P (dC, dI) zc [(h0, .inr (7, [.ref ac, cu, .int dd, .int th])), (ac, .inr (0, [.int 0, ed, .int 0]))] s.heap := hP
  have hl := lv_entry ([.ref h0, .int a1, .int a2]) (n := 3) (Nat.le_of_ble_eq_true rfl)
  rw [lg_entry_eq]
  generalize (lg_sl ([.ref h0, .int a1, .int a2]) ++ List.replicate (3 - (lg_sl ([.ref h0, .int a1, .int a2])).length) Slot.unset).toArray = ls at hl ⊢
  have hl : lv_has ls 3 [(0, .ref h0), (1, .int a1), (2, .int a2)] := hl
  refine lv_aload_n hx hb dX8_pay_0 rfl (lv_at hl 0 rfl) ?_
  refine lv_aload_n hx hb dX8_pay_1 rfl (lv_at hl 0 rfl) ?_
  refine lv_iload_n hx hb dX8_pay_2 rfl (lv_at hl 1 rfl) ?_
  refine vp_callSi (W.runV (As := [.int a1]) (rest := [.ref h0]) ⟨hx, hb, hml, hown, hts⟩ (c_isAccount l dC dI s.heap.size t h0 ac cu dd th a1 ed) (cwV 1 hts (zg_V kw_1432 kw_1434 kw_41 kw_70 kw_1435) rfl rfl rfl (by decide +kernel) ⟨Nat.le_of_ble_eq_true rfl, Nat.le_of_ble_eq_true rfl⟩) ⟨zA_blind, va_recv hK hP (ci := 7) (q0 := 0) rfl rfl, zA_pre hP hD hS hK hQ hA [0, 1] rfl rfl (by decide) [] rfl⟩ rfl rfl hl.1 rfl (lv_room (Nat.le_of_ble_eq_true rfl)) dX8_pay_3 ⟨zl_b rfl, zl_b rfl⟩) (fun r hr => ?_)
  subst hr
  refine lv_iconst (v := 1) hx hb dX8_pay_6 (by decide) ?_
  have hFc := va_free (wc := [(h0, .inr (7, [.ref ac, cu, .int dd, .int th]))]) hD hS hA [0] rfl
  refine va_calli (va_runV (As := [.int 0, .int 1]) (rest := []) ⟨hx, hb, hml, hown, hts⟩ (c_no0 l dC dI s.heap.size t h0 (.ref ac) cu dd th 1) (cwV 2 hts (zg_V kw_1377 kw_1379 kw_40 kw_70 kw_1380) rfl rfl rfl (by decide +kernel) ⟨Nat.le_of_ble_eq_true rfl, Nat.le_of_ble_eq_true rfl⟩) ⟨zA_blind, va_recv hK hP (ci := 7) (q0 := 0) rfl rfl, zA_pre hP hD hS hK hQ hA [0] rfl rfl (by decide) [] rfl⟩ rfl rfl hl.1 rfl (lv_room (Nat.le_of_ble_eq_true rfl)) dX8_pay_7 ⟨zl_b rfl, zl_b rfl⟩) hS (fun q _ h => hFc q h) hFc (fun r_1 u t9 H1 locs ht hvm hw hB hz1 hk1 hS => ?_)
  obtain ⟨hP1, hK1, hD1⟩ := hB
  rw [ht] at hP1
  have hK1 := va_K.moved hvm.symm hK1
  obtain ⟨hP, hD⟩ := va_join (wr := [(ac, .inr (0, [.int 0, ed, .int 0]))]) (w1 := [(h0, .inr (7, [.ref ac, cu, .int dd, .int 1]))]) hP hD [0] [1] rfl rfl (by decide) (by decide) hk1 hFc hP1 hD1
  have hK := (hK.sub (tys' := []) [] rfl).app hK1
  generalize H1 = H at hP hS ⊢
  have hP : va_P (dC, dI) zc [(ac, .inr (0, [.int 0, ed, .int 0])), (h0, .inr (7, [.ref ac, cu, .int dd, .int 1]))] H := hP
  have hD : va_D A [(ac, .inr (0, [.int 0, ed, .int 0])), (h0, .inr (7, [.ref ac, cu, .int dd, .int 1]))] := hD
  have hK : va_K (dC, dI) zc [] s := hK
  obtain rfl : r_1 = 1 := hw
  refine lv_if_ne (tgt := 41) hx hb dX8_pay_10 (by decide) (fun c_2 => ?_) (fun c_2 => absurd c_2 (by decide))
  refine lv_iconst (v := 0) hx hb dX8_pay_41 (by decide) ?_
  have hP9 := hP.sub (ws' := [(h0, .inr (7, [.ref ac, cu, .int dd, .int 1])), (ac, .inr (0, [.int 0, ed, .int 0]))]) [1, 0] rfl
  have hD9 := hD.sub (ws' := [(h0, .inr (7, [.ref ac, cu, .int dd, .int 1])), (ac, .inr (0, [.int 0, ed, .int 0]))]) [1, 0] (by decide) rfl
  have hK9 := hK.sub (tys' := []) [] rfl
  exact W.iret hx hb hr (fun t ht hW => ⟨⟨_, (), rfl, trivial, by rw [ht]; exact hP9, va_K.moved hW.alike hK9, hD9⟩, hS.F ht⟩) hS.2.2 dX8_pay_42
set_option maxHeartbeats 4000000 in
set_option maxRecDepth 100000 in
/-- returns of the model: no such account -/
theorem m_returns (l : Launch) (dC : Nat → ClassId) (dI : Nat → Nat → Nat) (sz t : Nat) (h0 ac : Nat) (cu : Value) (dd th : Int32) (ed : Value) (a1 a2 : Int32) : Met l yX8_returns ws_X8_returns ({ frames := 4, cells := 0, slots := 0, locals := 77 }) (zA dC dI [(h0, .inr (7, [.ref ac, cu, .int dd, .int th])), (ac, .inr (0, [.int 0, ed, .int 0]))] [] sz t [.ref h0, .int a1, .int a2]) (va_Qi (fun r (_ : Unit) => True) (fun _ t9 => zB dC dI (va_A [(h0, .inr (7, [.ref ac, cu, .int dd, .int th])), (ac, .inr (0, [.int 0, ed, .int 0]))] sz) [(h0, .inr (7, [.ref ac, cu, .int dd, .int 1])), (ac, .inr (0, [.int 0, ed, .int 0]))] [] t9) (va_A [(h0, .inr (7, [.ref ac, cu, .int dd, .int th])), (ac, .inr (0, [.int 0, ed, .int 0]))] sz)) 0 0 (va_A [(h0, .inr (7, [.ref ac, cu, .int dd, .int th])), (ac, .inr (0, [.int 0, ed, .int 0]))] sz) := by
  refine Met.ofW (cc := cX8_returns) (maxL := 3) (ret := (some .int)) (by decide) rfl ?_
  intro p e s m args below meth c s₁ B hml hv
  obtain ⟨rfl, hsz, hP, hK, hD0, hQ⟩ := hv
  have hx := B.exec
  have hb := B.bytes
  have hr := B.returns
  have hts : ∀ w ∈ zG, w.before _ s = true := fun w h => atoms_spec (ws := ws_X8_returns) B.pre w (List.mem_cons_of_mem _ h)
  have hown : s.vm.findClass RX8 = some m.cls := findClass_of_methodNamed B.named
  have hlocks := B.notSynchronized
  subst hsz
  have hD := hD0.self (sz := s.heap.size)
  generalize hAe : va_A [(h0, .inr (7, [.ref ac, cu, .int dd, .int th])), (ac, .inr (0, [.int 0, ed, .int 0]))] s.heap.size = A at hD hQ ⊢
  have hA : ∀ q : Nat, s.heap.size ≤ q → A q := fun q h => by rw [← hAe]; exact Or.inr h
  have hS : va_S A s.heap s.heap [] := va_S.rf
  have hP : va_P (dC, dI) zc [(h0, .inr (7, [.ref ac, cu, .int dd, .int th])), (ac, .inr (0, [.int 0, ed, .int 0]))] s.heap := hP
  have hl := lv_entry ([.ref h0, .int a1, .int a2]) (n := 3) (Nat.le_of_ble_eq_true rfl)
  rw [lg_entry_eq]
  generalize (lg_sl ([.ref h0, .int a1, .int a2]) ++ List.replicate (3 - (lg_sl ([.ref h0, .int a1, .int a2])).length) Slot.unset).toArray = ls at hl ⊢
  have hl : lv_has ls 3 [(0, .ref h0), (1, .int a1), (2, .int a2)] := hl
  refine lv_aload_n hx hb dX8_returns_0 rfl (lv_at hl 0 rfl) ?_
  refine lv_aload_n hx hb dX8_returns_1 rfl (lv_at hl 0 rfl) ?_
  refine lv_iload_n hx hb dX8_returns_2 rfl (lv_at hl 1 rfl) ?_
  refine lv_iload_n hx hb dX8_returns_3 rfl (lv_at hl 2 rfl) ?_
  refine vp_callSi (W.runV (As := [.int a1, .int a2]) (rest := [.ref h0]) ⟨hx, hb, hml, hown, hts⟩ (c_isEvent l dC dI s.heap.size t h0 ac cu dd th a1 a2 ed) (cwV 2 hts (zg_V kw_1802 kw_1804 kw_58 kw_70 kw_1805) rfl rfl rfl (by decide +kernel) ⟨Nat.le_of_ble_eq_true rfl, Nat.le_of_ble_eq_true rfl⟩) ⟨zA_blind, va_recv hK hP (ci := 7) (q0 := 0) rfl rfl, zA_pre hP hD hS hK hQ hA [0, 1] rfl rfl (by decide) [] rfl⟩ rfl rfl hl.1 rfl (lv_room (Nat.le_of_ble_eq_true rfl)) dX8_returns_4 ⟨zl_b rfl, zl_b rfl⟩) (fun r hr => ?_)
  subst hr
  refine lv_iconst (v := 1) hx hb dX8_returns_7 (by decide) ?_
  have hFc := va_free (wc := [(h0, .inr (7, [.ref ac, cu, .int dd, .int th]))]) hD hS hA [0] rfl
  refine va_calli (va_runV (As := [.int 0, .int 1]) (rest := []) ⟨hx, hb, hml, hown, hts⟩ (c_no0 l dC dI s.heap.size t h0 (.ref ac) cu dd th 1) (cwV 2 hts (zg_V kw_1377 kw_1379 kw_40 kw_70 kw_1380) rfl rfl rfl (by decide +kernel) ⟨Nat.le_of_ble_eq_true rfl, Nat.le_of_ble_eq_true rfl⟩) ⟨zA_blind, va_recv hK hP (ci := 7) (q0 := 0) rfl rfl, zA_pre hP hD hS hK hQ hA [0] rfl rfl (by decide) [] rfl⟩ rfl rfl hl.1 rfl (lv_room (Nat.le_of_ble_eq_true rfl)) dX8_returns_8 ⟨zl_b rfl, zl_b rfl⟩) hS (fun q _ h => hFc q h) hFc (fun r_1 u t9 H1 locs ht hvm hw hB hz1 hk1 hS => ?_)
  obtain ⟨hP1, hK1, hD1⟩ := hB
  rw [ht] at hP1
  have hK1 := va_K.moved hvm.symm hK1
  obtain ⟨hP, hD⟩ := va_join (wr := [(ac, .inr (0, [.int 0, ed, .int 0]))]) (w1 := [(h0, .inr (7, [.ref ac, cu, .int dd, .int 1]))]) hP hD [0] [1] rfl rfl (by decide) (by decide) hk1 hFc hP1 hD1
  have hK := (hK.sub (tys' := []) [] rfl).app hK1
  generalize H1 = H at hP hS ⊢
  have hP : va_P (dC, dI) zc [(ac, .inr (0, [.int 0, ed, .int 0])), (h0, .inr (7, [.ref ac, cu, .int dd, .int 1]))] H := hP
  have hD : va_D A [(ac, .inr (0, [.int 0, ed, .int 0])), (h0, .inr (7, [.ref ac, cu, .int dd, .int 1]))] := hD
  have hK : va_K (dC, dI) zc [] s := hK
  obtain rfl : r_1 = 1 := hw
  refine lv_if_ne (tgt := 66) hx hb dX8_returns_11 (by decide) (fun c_2 => ?_) (fun c_2 => absurd c_2 (by decide))
  refine lv_iconst (v := 0) hx hb dX8_returns_66 (by decide) ?_
  have hP9 := hP.sub (ws' := [(h0, .inr (7, [.ref ac, cu, .int dd, .int 1])), (ac, .inr (0, [.int 0, ed, .int 0]))]) [1, 0] rfl
  have hD9 := hD.sub (ws' := [(h0, .inr (7, [.ref ac, cu, .int dd, .int 1])), (ac, .inr (0, [.int 0, ed, .int 0]))]) [1, 0] (by decide) rfl
  have hK9 := hK.sub (tys' := []) [] rfl
  exact W.iret hx hb hr (fun t ht hW => ⟨⟨_, (), rfl, trivial, by rw [ht]; exact hP9, va_K.moved hW.alike hK9, hD9⟩, hS.F ht⟩) hS.2.2 dX8_returns_67
set_option maxHeartbeats 4000000 in
set_option maxRecDepth 100000 in
/-- dispute of the model: no such account -/
theorem m_dispute (l : Launch) (dC : Nat → ClassId) (dI : Nat → Nat → Nat) (sz t : Nat) (h0 ac : Nat) (cu : Value) (dd th : Int32) (ed : Value) (a1 a2 : Int32) : Met l yX8_dispute ws_X8_dispute ({ frames := 4, cells := 0, slots := 0, locals := 77 }) (zA dC dI [(h0, .inr (7, [.ref ac, cu, .int dd, .int th])), (ac, .inr (0, [.int 0, ed, .int 0]))] [] sz t [.ref h0, .int a1, .int a2]) (va_Qi (fun r (_ : Unit) => True) (fun _ t9 => zB dC dI (va_A [(h0, .inr (7, [.ref ac, cu, .int dd, .int th])), (ac, .inr (0, [.int 0, ed, .int 0]))] sz) [(h0, .inr (7, [.ref ac, cu, .int dd, .int 1])), (ac, .inr (0, [.int 0, ed, .int 0]))] [] t9) (va_A [(h0, .inr (7, [.ref ac, cu, .int dd, .int th])), (ac, .inr (0, [.int 0, ed, .int 0]))] sz)) 0 0 (va_A [(h0, .inr (7, [.ref ac, cu, .int dd, .int th])), (ac, .inr (0, [.int 0, ed, .int 0]))] sz) := by
  refine Met.ofW (cc := cX8_dispute) (maxL := 7) (ret := (some .int)) (by decide) rfl ?_
  intro p e s m args below meth c s₁ B hml hv
  obtain ⟨rfl, hsz, hP, hK, hD0, hQ⟩ := hv
  have hx := B.exec
  have hb := B.bytes
  have hr := B.returns
  have hts : ∀ w ∈ zG, w.before _ s = true := fun w h => atoms_spec (ws := ws_X8_dispute) B.pre w (List.mem_cons_of_mem _ h)
  have hown : s.vm.findClass RX8 = some m.cls := findClass_of_methodNamed B.named
  have hlocks := B.notSynchronized
  subst hsz
  have hD := hD0.self (sz := s.heap.size)
  generalize hAe : va_A [(h0, .inr (7, [.ref ac, cu, .int dd, .int th])), (ac, .inr (0, [.int 0, ed, .int 0]))] s.heap.size = A at hD hQ ⊢
  have hA : ∀ q : Nat, s.heap.size ≤ q → A q := fun q h => by rw [← hAe]; exact Or.inr h
  have hS : va_S A s.heap s.heap [] := va_S.rf
  have hP : va_P (dC, dI) zc [(h0, .inr (7, [.ref ac, cu, .int dd, .int th])), (ac, .inr (0, [.int 0, ed, .int 0]))] s.heap := hP
  have hl := lv_entry ([.ref h0, .int a1, .int a2]) (n := 7) (Nat.le_of_ble_eq_true rfl)
  rw [lg_entry_eq]
  generalize (lg_sl ([.ref h0, .int a1, .int a2]) ++ List.replicate (7 - (lg_sl ([.ref h0, .int a1, .int a2])).length) Slot.unset).toArray = ls at hl ⊢
  have hl : lv_has ls 7 [(0, .ref h0), (1, .int a1), (2, .int a2)] := hl
  refine lv_aload_n hx hb dX8_dispute_0 rfl (lv_at hl 0 rfl) ?_
  refine lv_aload_n hx hb dX8_dispute_1 rfl (lv_at hl 0 rfl) ?_
  refine lv_iload_n hx hb dX8_dispute_2 rfl (lv_at hl 1 rfl) ?_
  refine lv_iload_n hx hb dX8_dispute_3 rfl (lv_at hl 2 rfl) ?_
  refine vp_callSi (W.runV (As := [.int a1, .int a2]) (rest := [.ref h0]) ⟨hx, hb, hml, hown, hts⟩ (c_isEvent l dC dI s.heap.size t h0 ac cu dd th a1 a2 ed) (cwV 2 hts (zg_V kw_1802 kw_1804 kw_58 kw_70 kw_1805) rfl rfl rfl (by decide +kernel) ⟨Nat.le_of_ble_eq_true rfl, Nat.le_of_ble_eq_true rfl⟩) ⟨zA_blind, va_recv hK hP (ci := 7) (q0 := 0) rfl rfl, zA_pre hP hD hS hK hQ hA [0, 1] rfl rfl (by decide) [] rfl⟩ rfl rfl hl.1 rfl (lv_room (Nat.le_of_ble_eq_true rfl)) dX8_dispute_4 ⟨zl_b rfl, zl_b rfl⟩) (fun r hr => ?_)
  subst hr
  refine lv_iconst (v := 1) hx hb dX8_dispute_7 (by decide) ?_
  have hFc := va_free (wc := [(h0, .inr (7, [.ref ac, cu, .int dd, .int th]))]) hD hS hA [0] rfl
  refine va_calli (va_runV (As := [.int 0, .int 1]) (rest := []) ⟨hx, hb, hml, hown, hts⟩ (c_no0 l dC dI s.heap.size t h0 (.ref ac) cu dd th 1) (cwV 2 hts (zg_V kw_1377 kw_1379 kw_40 kw_70 kw_1380) rfl rfl rfl (by decide +kernel) ⟨Nat.le_of_ble_eq_true rfl, Nat.le_of_ble_eq_true rfl⟩) ⟨zA_blind, va_recv hK hP (ci := 7) (q0 := 0) rfl rfl, zA_pre hP hD hS hK hQ hA [0] rfl rfl (by decide) [] rfl⟩ rfl rfl hl.1 rfl (lv_room (Nat.le_of_ble_eq_true rfl)) dX8_dispute_8 ⟨zl_b rfl, zl_b rfl⟩) hS (fun q _ h => hFc q h) hFc (fun r_1 u t9 H1 locs ht hvm hw hB hz1 hk1 hS => ?_)
  obtain ⟨hP1, hK1, hD1⟩ := hB
  rw [ht] at hP1
  have hK1 := va_K.moved hvm.symm hK1
  obtain ⟨hP, hD⟩ := va_join (wr := [(ac, .inr (0, [.int 0, ed, .int 0]))]) (w1 := [(h0, .inr (7, [.ref ac, cu, .int dd, .int 1]))]) hP hD [0] [1] rfl rfl (by decide) (by decide) hk1 hFc hP1 hD1
  have hK := (hK.sub (tys' := []) [] rfl).app hK1
  generalize H1 = H at hP hS ⊢
  have hP : va_P (dC, dI) zc [(ac, .inr (0, [.int 0, ed, .int 0])), (h0, .inr (7, [.ref ac, cu, .int dd, .int 1]))] H := hP
  have hD : va_D A [(ac, .inr (0, [.int 0, ed, .int 0])), (h0, .inr (7, [.ref ac, cu, .int dd, .int 1]))] := hD
  have hK : va_K (dC, dI) zc [] s := hK
  obtain rfl : r_1 = 1 := hw
  refine lv_if_eq (tgt := 16) hx hb dX8_dispute_11 (by decide) (fun c_2 => absurd c_2 (by decide)) (fun c_2 => ?_)
  refine lv_iconst (v := 0) hx hb dX8_dispute_14 (by decide) ?_
  have hP9 := hP.sub (ws' := [(h0, .inr (7, [.ref ac, cu, .int dd, .int 1])), (ac, .inr (0, [.int 0, ed, .int 0]))]) [1, 0] rfl
  have hD9 := hD.sub (ws' := [(h0, .inr (7, [.ref ac, cu, .int dd, .int 1])), (ac, .inr (0, [.int 0, ed, .int 0]))]) [1, 0] (by decide) rfl
  have hK9 := hK.sub (tys' := []) [] rfl
  exact W.iret hx hb hr (fun t ht hW => ⟨⟨_, (), rfl, trivial, by rw [ht]; exact hP9, va_K.moved hW.alike hK9, hD9⟩, hS.F ht⟩) hS.2.2 dX8_dispute_15
set_option maxHeartbeats 4000000 in
set_option maxRecDepth 100000 in
/-- settle of the model: no such account -/
theorem m_settle (l : Launch) (dC : Nat → ClassId) (dI : Nat → Nat → Nat) (sz t : Nat) (h0 ac : Nat) (cu : Value) (dd th : Int32) (ed : Value) (a1 a2 a3 : Int32) : Met l yX8_settle ws_X8_settle ({ frames := 4, cells := 0, slots := 0, locals := 77 }) (zA dC dI [(h0, .inr (7, [.ref ac, cu, .int dd, .int th])), (ac, .inr (0, [.int 0, ed, .int 0]))] [] sz t [.ref h0, .int a1, .int a2, .int a3]) (va_Ql (fun r (_ : Unit) => True) (fun _ t9 => zB dC dI (va_A [(h0, .inr (7, [.ref ac, cu, .int dd, .int th])), (ac, .inr (0, [.int 0, ed, .int 0]))] sz) [(h0, .inr (7, [.ref ac, cu, .int dd, .int 1])), (ac, .inr (0, [.int 0, ed, .int 0]))] [] t9) (va_A [(h0, .inr (7, [.ref ac, cu, .int dd, .int th])), (ac, .inr (0, [.int 0, ed, .int 0]))] sz)) 0 0 (va_A [(h0, .inr (7, [.ref ac, cu, .int dd, .int th])), (ac, .inr (0, [.int 0, ed, .int 0]))] sz) := by
  refine Met.ofW (cc := cX8_settle) (maxL := 4) (ret := (some .long)) (by decide) rfl ?_
  intro p e s m args below meth c s₁ B hml hv
  obtain ⟨rfl, hsz, hP, hK, hD0, hQ⟩ := hv
  have hx := B.exec
  have hb := B.bytes
  have hr := B.returns
  have hts : ∀ w ∈ zG, w.before _ s = true := fun w h => atoms_spec (ws := ws_X8_settle) B.pre w (List.mem_cons_of_mem _ h)
  have hown : s.vm.findClass RX8 = some m.cls := findClass_of_methodNamed B.named
  have hlocks := B.notSynchronized
  subst hsz
  have hD := hD0.self (sz := s.heap.size)
  generalize hAe : va_A [(h0, .inr (7, [.ref ac, cu, .int dd, .int th])), (ac, .inr (0, [.int 0, ed, .int 0]))] s.heap.size = A at hD hQ ⊢
  have hA : ∀ q : Nat, s.heap.size ≤ q → A q := fun q h => by rw [← hAe]; exact Or.inr h
  have hS : va_S A s.heap s.heap [] := va_S.rf
  have hP : va_P (dC, dI) zc [(h0, .inr (7, [.ref ac, cu, .int dd, .int th])), (ac, .inr (0, [.int 0, ed, .int 0]))] s.heap := hP
  have hl := lv_entry ([.ref h0, .int a1, .int a2, .int a3]) (n := 4) (Nat.le_of_ble_eq_true rfl)
  rw [lg_entry_eq]
  generalize (lg_sl ([.ref h0, .int a1, .int a2, .int a3]) ++ List.replicate (4 - (lg_sl ([.ref h0, .int a1, .int a2, .int a3])).length) Slot.unset).toArray = ls at hl ⊢
  have hl : lv_has ls 4 [(0, .ref h0), (1, .int a1), (2, .int a2), (3, .int a3)] := hl
  refine lv_aload_n hx hb dX8_settle_0 rfl (lv_at hl 0 rfl) ?_
  refine lv_aload_n hx hb dX8_settle_1 rfl (lv_at hl 0 rfl) ?_
  refine lv_iload_n hx hb dX8_settle_2 rfl (lv_at hl 1 rfl) ?_
  refine lv_iload_n hx hb dX8_settle_3 rfl (lv_at hl 2 rfl) ?_
  refine vp_callSi (W.runV (As := [.int a1, .int a2]) (rest := [.ref h0]) ⟨hx, hb, hml, hown, hts⟩ (c_isEvent l dC dI s.heap.size t h0 ac cu dd th a1 a2 ed) (cwV 2 hts (zg_V kw_1802 kw_1804 kw_58 kw_70 kw_1805) rfl rfl rfl (by decide +kernel) ⟨Nat.le_of_ble_eq_true rfl, Nat.le_of_ble_eq_true rfl⟩) ⟨zA_blind, va_recv hK hP (ci := 7) (q0 := 0) rfl rfl, zA_pre hP hD hS hK hQ hA [0, 1] rfl rfl (by decide) [] rfl⟩ rfl rfl hl.1 rfl (lv_room (Nat.le_of_ble_eq_true rfl)) dX8_settle_4 ⟨zl_b rfl, zl_b rfl⟩) (fun r hr => ?_)
  subst hr
  refine lv_iconst (v := 1) hx hb dX8_settle_7 (by decide) ?_
  have hFc := va_free (wc := [(h0, .inr (7, [.ref ac, cu, .int dd, .int th]))]) hD hS hA [0] rfl
  refine va_calli (va_runV (As := [.int 0, .int 1]) (rest := []) ⟨hx, hb, hml, hown, hts⟩ (c_no0 l dC dI s.heap.size t h0 (.ref ac) cu dd th 1) (cwV 2 hts (zg_V kw_1377 kw_1379 kw_40 kw_70 kw_1380) rfl rfl rfl (by decide +kernel) ⟨Nat.le_of_ble_eq_true rfl, Nat.le_of_ble_eq_true rfl⟩) ⟨zA_blind, va_recv hK hP (ci := 7) (q0 := 0) rfl rfl, zA_pre hP hD hS hK hQ hA [0] rfl rfl (by decide) [] rfl⟩ rfl rfl hl.1 rfl (lv_room (Nat.le_of_ble_eq_true rfl)) dX8_settle_8 ⟨zl_b rfl, zl_b rfl⟩) hS (fun q _ h => hFc q h) hFc (fun r_1 u t9 H1 locs ht hvm hw hB hz1 hk1 hS => ?_)
  obtain ⟨hP1, hK1, hD1⟩ := hB
  rw [ht] at hP1
  have hK1 := va_K.moved hvm.symm hK1
  obtain ⟨hP, hD⟩ := va_join (wr := [(ac, .inr (0, [.int 0, ed, .int 0]))]) (w1 := [(h0, .inr (7, [.ref ac, cu, .int dd, .int 1]))]) hP hD [0] [1] rfl rfl (by decide) (by decide) hk1 hFc hP1 hD1
  have hK := (hK.sub (tys' := []) [] rfl).app hK1
  generalize H1 = H at hP hS ⊢
  have hP : va_P (dC, dI) zc [(ac, .inr (0, [.int 0, ed, .int 0])), (h0, .inr (7, [.ref ac, cu, .int dd, .int 1]))] H := hP
  have hD : va_D A [(ac, .inr (0, [.int 0, ed, .int 0])), (h0, .inr (7, [.ref ac, cu, .int dd, .int 1]))] := hD
  have hK : va_K (dC, dI) zc [] s := hK
  obtain rfl : r_1 = 1 := hw
  refine lv_if_ne (tgt := 31) hx hb dX8_settle_11 (by decide) (fun c_2 => ?_) (fun c_2 => absurd c_2 (by decide))
  refine lv_lconst (v := 0) hx hb dX8_settle_31 (by decide) ?_
  have hP9 := hP.sub (ws' := [(h0, .inr (7, [.ref ac, cu, .int dd, .int 1])), (ac, .inr (0, [.int 0, ed, .int 0]))]) [1, 0] rfl
  have hD9 := hD.sub (ws' := [(h0, .inr (7, [.ref ac, cu, .int dd, .int 1])), (ac, .inr (0, [.int 0, ed, .int 0]))]) [1, 0] (by decide) rfl
  have hK9 := hK.sub (tys' := []) [] rfl
  exact W.lret hx hb hr (fun t ht hW => ⟨⟨_, (), rfl, trivial, by rw [ht]; exact hP9, va_K.moved hW.alike hK9, hD9⟩, hS.F ht⟩) hS.2.2 dX8_settle_32
set_option maxHeartbeats 4000000 in
set_option maxRecDepth 100000 in
/-- reverse of the model: no such account -/
theorem m_reverse (l : Launch) (dC : Nat → ClassId) (dI : Nat → Nat → Nat) (sz t : Nat) (h0 ac : Nat) (cu : Value) (dd th : Int32) (ed : Value) (a1 a2 : Int32) : Met l yX8_reverse ws_X8_reverse ({ frames := 4, cells := 0, slots := 0, locals := 77 }) (zA dC dI [(h0, .inr (7, [.ref ac, cu, .int dd, .int th])), (ac, .inr (0, [.int 0, ed, .int 0]))] [] sz t [.ref h0, .int a1, .int a2]) (va_Ql (fun r (_ : Unit) => True) (fun _ t9 => zB dC dI (va_A [(h0, .inr (7, [.ref ac, cu, .int dd, .int th])), (ac, .inr (0, [.int 0, ed, .int 0]))] sz) [(h0, .inr (7, [.ref ac, cu, .int dd, .int 1])), (ac, .inr (0, [.int 0, ed, .int 0]))] [] t9) (va_A [(h0, .inr (7, [.ref ac, cu, .int dd, .int th])), (ac, .inr (0, [.int 0, ed, .int 0]))] sz)) 0 0 (va_A [(h0, .inr (7, [.ref ac, cu, .int dd, .int th])), (ac, .inr (0, [.int 0, ed, .int 0]))] sz) := by
  refine Met.ofW (cc := cX8_reverse) (maxL := 4) (ret := (some .long)) (by decide) rfl ?_
  intro p e s m args below meth c s₁ B hml hv
  obtain ⟨rfl, hsz, hP, hK, hD0, hQ⟩ := hv
  have hx := B.exec
  have hb := B.bytes
  have hr := B.returns
  have hts : ∀ w ∈ zG, w.before _ s = true := fun w h => atoms_spec (ws := ws_X8_reverse) B.pre w (List.mem_cons_of_mem _ h)
  have hown : s.vm.findClass RX8 = some m.cls := findClass_of_methodNamed B.named
  have hlocks := B.notSynchronized
  subst hsz
  have hD := hD0.self (sz := s.heap.size)
  generalize hAe : va_A [(h0, .inr (7, [.ref ac, cu, .int dd, .int th])), (ac, .inr (0, [.int 0, ed, .int 0]))] s.heap.size = A at hD hQ ⊢
  have hA : ∀ q : Nat, s.heap.size ≤ q → A q := fun q h => by rw [← hAe]; exact Or.inr h
  have hS : va_S A s.heap s.heap [] := va_S.rf
  have hP : va_P (dC, dI) zc [(h0, .inr (7, [.ref ac, cu, .int dd, .int th])), (ac, .inr (0, [.int 0, ed, .int 0]))] s.heap := hP
  have hl := lv_entry ([.ref h0, .int a1, .int a2]) (n := 4) (Nat.le_of_ble_eq_true rfl)
  rw [lg_entry_eq]
  generalize (lg_sl ([.ref h0, .int a1, .int a2]) ++ List.replicate (4 - (lg_sl ([.ref h0, .int a1, .int a2])).length) Slot.unset).toArray = ls at hl ⊢
  have hl : lv_has ls 4 [(0, .ref h0), (1, .int a1), (2, .int a2)] := hl
  refine lv_aload_n hx hb dX8_reverse_0 rfl (lv_at hl 0 rfl) ?_
  refine lv_aload_n hx hb dX8_reverse_1 rfl (lv_at hl 0 rfl) ?_
  refine lv_iload_n hx hb dX8_reverse_2 rfl (lv_at hl 1 rfl) ?_
  refine lv_iload_n hx hb dX8_reverse_3 rfl (lv_at hl 2 rfl) ?_
  refine vp_callSi (W.runV (As := [.int a1, .int a2]) (rest := [.ref h0]) ⟨hx, hb, hml, hown, hts⟩ (c_isEvent l dC dI s.heap.size t h0 ac cu dd th a1 a2 ed) (cwV 2 hts (zg_V kw_1802 kw_1804 kw_58 kw_70 kw_1805) rfl rfl rfl (by decide +kernel) ⟨Nat.le_of_ble_eq_true rfl, Nat.le_of_ble_eq_true rfl⟩) ⟨zA_blind, va_recv hK hP (ci := 7) (q0 := 0) rfl rfl, zA_pre hP hD hS hK hQ hA [0, 1] rfl rfl (by decide) [] rfl⟩ rfl rfl hl.1 rfl (lv_room (Nat.le_of_ble_eq_true rfl)) dX8_reverse_4 ⟨zl_b rfl, zl_b rfl⟩) (fun r hr => ?_)
  subst hr
  refine lv_iconst (v := 1) hx hb dX8_reverse_7 (by decide) ?_
  have hFc := va_free (wc := [(h0, .inr (7, [.ref ac, cu, .int dd, .int th]))]) hD hS hA [0] rfl
  refine va_calli (va_runV (As := [.int 0, .int 1]) (rest := []) ⟨hx, hb, hml, hown, hts⟩ (c_no0 l dC dI s.heap.size t h0 (.ref ac) cu dd th 1) (cwV 2 hts (zg_V kw_1377 kw_1379 kw_40 kw_70 kw_1380) rfl rfl rfl (by decide +kernel) ⟨Nat.le_of_ble_eq_true rfl, Nat.le_of_ble_eq_true rfl⟩) ⟨zA_blind, va_recv hK hP (ci := 7) (q0 := 0) rfl rfl, zA_pre hP hD hS hK hQ hA [0] rfl rfl (by decide) [] rfl⟩ rfl rfl hl.1 rfl (lv_room (Nat.le_of_ble_eq_true rfl)) dX8_reverse_8 ⟨zl_b rfl, zl_b rfl⟩) hS (fun q _ h => hFc q h) hFc (fun r_1 u t9 H1 locs ht hvm hw hB hz1 hk1 hS => ?_)
  obtain ⟨hP1, hK1, hD1⟩ := hB
  rw [ht] at hP1
  have hK1 := va_K.moved hvm.symm hK1
  obtain ⟨hP, hD⟩ := va_join (wr := [(ac, .inr (0, [.int 0, ed, .int 0]))]) (w1 := [(h0, .inr (7, [.ref ac, cu, .int dd, .int 1]))]) hP hD [0] [1] rfl rfl (by decide) (by decide) hk1 hFc hP1 hD1
  have hK := (hK.sub (tys' := []) [] rfl).app hK1
  generalize H1 = H at hP hS ⊢
  have hP : va_P (dC, dI) zc [(ac, .inr (0, [.int 0, ed, .int 0])), (h0, .inr (7, [.ref ac, cu, .int dd, .int 1]))] H := hP
  have hD : va_D A [(ac, .inr (0, [.int 0, ed, .int 0])), (h0, .inr (7, [.ref ac, cu, .int dd, .int 1]))] := hD
  have hK : va_K (dC, dI) zc [] s := hK
  obtain rfl : r_1 = 1 := hw
  refine lv_if_eq (tgt := 16) hx hb dX8_reverse_11 (by decide) (fun c_2 => absurd c_2 (by decide)) (fun c_2 => ?_)
  refine lv_lconst (v := 0) hx hb dX8_reverse_14 (by decide) ?_
  have hP9 := hP.sub (ws' := [(h0, .inr (7, [.ref ac, cu, .int dd, .int 1])), (ac, .inr (0, [.int 0, ed, .int 0]))]) [1, 0] rfl
  have hD9 := hD.sub (ws' := [(h0, .inr (7, [.ref ac, cu, .int dd, .int 1])), (ac, .inr (0, [.int 0, ed, .int 0]))]) [1, 0] (by decide) rfl
  have hK9 := hK.sub (tys' := []) [] rfl
  exact W.lret hx hb hr (fun t ht hW => ⟨⟨_, (), rfl, trivial, by rw [ht]; exact hP9, va_K.moved hW.alike hK9, hD9⟩, hS.F ht⟩) hS.2.2 dX8_reverse_15
set_option maxHeartbeats 4000000 in
set_option maxRecDepth 100000 in
/-- plan of the model: no such account -/
theorem m_plan (l : Launch) (dC : Nat → ClassId) (dI : Nat → Nat → Nat) (sz t : Nat) (h0 ac : Nat) (cu : Value) (dd th : Int32) (ed : Value) (a1 : Int32) : Met l yX8_plan ws_X8_plan ({ frames := 3, cells := 0, slots := 0, locals := 55 }) (zA dC dI [(h0, .inr (7, [.ref ac, cu, .int dd, .int th])), (ac, .inr (0, [.int 0, ed, .int 0]))] [] sz t [.ref h0, .int a1]) (va_Qi (fun r (_ : Unit) => True) (fun _ t9 => zB dC dI (va_A [(h0, .inr (7, [.ref ac, cu, .int dd, .int th])), (ac, .inr (0, [.int 0, ed, .int 0]))] sz) [(h0, .inr (7, [.ref ac, cu, .int dd, .int 1])), (ac, .inr (0, [.int 0, ed, .int 0]))] [] t9) (va_A [(h0, .inr (7, [.ref ac, cu, .int dd, .int th])), (ac, .inr (0, [.int 0, ed, .int 0]))] sz)) 0 0 (va_A [(h0, .inr (7, [.ref ac, cu, .int dd, .int th])), (ac, .inr (0, [.int 0, ed, .int 0]))] sz) := by
  refine Met.ofW (cc := cX8_plan) (maxL := 5) (ret := (some .int)) (by decide) rfl ?_
  intro p e s m args below meth c s₁ B hml hv
  obtain ⟨rfl, hsz, hP, hK, hD0, hQ⟩ := hv
  have hx := B.exec
  have hb := B.bytes
  have hr := B.returns
  have hts : ∀ w ∈ zG, w.before _ s = true := fun w h => atoms_spec (ws := ws_X8_plan) B.pre w (List.mem_cons_of_mem _ h)
  have hown : s.vm.findClass RX8 = some m.cls := findClass_of_methodNamed B.named
  have hlocks := B.notSynchronized
  subst hsz
  have hD := hD0.self (sz := s.heap.size)
  generalize hAe : va_A [(h0, .inr (7, [.ref ac, cu, .int dd, .int th])), (ac, .inr (0, [.int 0, ed, .int 0]))] s.heap.size = A at hD hQ ⊢
  have hA : ∀ q : Nat, s.heap.size ≤ q → A q := fun q h => by rw [← hAe]; exact Or.inr h
  have hS : va_S A s.heap s.heap [] := va_S.rf
  have hP : va_P (dC, dI) zc [(h0, .inr (7, [.ref ac, cu, .int dd, .int th])), (ac, .inr (0, [.int 0, ed, .int 0]))] s.heap := hP
  have hl := lv_entry ([.ref h0, .int a1]) (n := 5) (Nat.le_of_ble_eq_true rfl)
  rw [lg_entry_eq]
  generalize (lg_sl ([.ref h0, .int a1]) ++ List.replicate (5 - (lg_sl ([.ref h0, .int a1])).length) Slot.unset).toArray = ls at hl ⊢
  have hl : lv_has ls 5 [(0, .ref h0), (1, .int a1)] := hl
  refine lv_aload_n hx hb dX8_plan_0 rfl (lv_at hl 0 rfl) ?_
  refine lv_aload_n hx hb dX8_plan_1 rfl (lv_at hl 0 rfl) ?_
  refine lv_iload_n hx hb dX8_plan_2 rfl (lv_at hl 1 rfl) ?_
  refine vp_callSi (W.runV (As := [.int a1]) (rest := [.ref h0]) ⟨hx, hb, hml, hown, hts⟩ (c_isAccount l dC dI s.heap.size t h0 ac cu dd th a1 ed) (cwV 1 hts (zg_V kw_1432 kw_1434 kw_41 kw_70 kw_1435) rfl rfl rfl (by decide +kernel) ⟨Nat.le_of_ble_eq_true rfl, Nat.le_of_ble_eq_true rfl⟩) ⟨zA_blind, va_recv hK hP (ci := 7) (q0 := 0) rfl rfl, zA_pre hP hD hS hK hQ hA [0, 1] rfl rfl (by decide) [] rfl⟩ rfl rfl hl.1 rfl (lv_room (Nat.le_of_ble_eq_true rfl)) dX8_plan_3 ⟨zl_b rfl, zl_b rfl⟩) (fun r hr => ?_)
  subst hr
  refine lv_iconst (v := 1) hx hb dX8_plan_6 (by decide) ?_
  have hFc := va_free (wc := [(h0, .inr (7, [.ref ac, cu, .int dd, .int th]))]) hD hS hA [0] rfl
  refine va_calli (va_runV (As := [.int 0, .int 1]) (rest := []) ⟨hx, hb, hml, hown, hts⟩ (c_no0 l dC dI s.heap.size t h0 (.ref ac) cu dd th 1) (cwV 2 hts (zg_V kw_1377 kw_1379 kw_40 kw_70 kw_1380) rfl rfl rfl (by decide +kernel) ⟨Nat.le_of_ble_eq_true rfl, Nat.le_of_ble_eq_true rfl⟩) ⟨zA_blind, va_recv hK hP (ci := 7) (q0 := 0) rfl rfl, zA_pre hP hD hS hK hQ hA [0] rfl rfl (by decide) [] rfl⟩ rfl rfl hl.1 rfl (lv_room (Nat.le_of_ble_eq_true rfl)) dX8_plan_7 ⟨zl_b rfl, zl_b rfl⟩) hS (fun q _ h => hFc q h) hFc (fun r_1 u t9 H1 locs ht hvm hw hB hz1 hk1 hS => ?_)
  obtain ⟨hP1, hK1, hD1⟩ := hB
  rw [ht] at hP1
  have hK1 := va_K.moved hvm.symm hK1
  obtain ⟨hP, hD⟩ := va_join (wr := [(ac, .inr (0, [.int 0, ed, .int 0]))]) (w1 := [(h0, .inr (7, [.ref ac, cu, .int dd, .int 1]))]) hP hD [0] [1] rfl rfl (by decide) (by decide) hk1 hFc hP1 hD1
  have hK := (hK.sub (tys' := []) [] rfl).app hK1
  generalize H1 = H at hP hS ⊢
  have hP : va_P (dC, dI) zc [(ac, .inr (0, [.int 0, ed, .int 0])), (h0, .inr (7, [.ref ac, cu, .int dd, .int 1]))] H := hP
  have hD : va_D A [(ac, .inr (0, [.int 0, ed, .int 0])), (h0, .inr (7, [.ref ac, cu, .int dd, .int 1]))] := hD
  have hK : va_K (dC, dI) zc [] s := hK
  obtain rfl : r_1 = 1 := hw
  refine lv_if_eq (tgt := 15) hx hb dX8_plan_10 (by decide) (fun c_2 => absurd c_2 (by decide)) (fun c_2 => ?_)
  refine lv_iconst (v := 0) hx hb dX8_plan_13 (by decide) ?_
  have hP9 := hP.sub (ws' := [(h0, .inr (7, [.ref ac, cu, .int dd, .int 1])), (ac, .inr (0, [.int 0, ed, .int 0]))]) [1, 0] rfl
  have hD9 := hD.sub (ws' := [(h0, .inr (7, [.ref ac, cu, .int dd, .int 1])), (ac, .inr (0, [.int 0, ed, .int 0]))]) [1, 0] (by decide) rfl
  have hK9 := hK.sub (tys' := []) [] rfl
  exact W.iret hx hb hr (fun t ht hW => ⟨⟨_, (), rfl, trivial, by rw [ht]; exact hP9, va_K.moved hW.alike hK9, hD9⟩, hS.F ht⟩) hS.2.2 dX8_plan_14
set_option maxHeartbeats 4000000 in
set_option maxRecDepth 100000 in
/-- redeem of the model: no such account -/
theorem m_redeem (l : Launch) (dC : Nat → ClassId) (dI : Nat → Nat → Nat) (sz t : Nat) (h0 ac : Nat) (cu : Value) (dd th : Int32) (ed : Value) (a1 a2 : Int32) : Met l yX8_redeem ws_X8_redeem ({ frames := 3, cells := 0, slots := 0, locals := 55 }) (zA dC dI [(h0, .inr (7, [.ref ac, cu, .int dd, .int th])), (ac, .inr (0, [.int 0, ed, .int 0]))] [] sz t [.ref h0, .int a1, .int a2]) (va_Qi (fun r (_ : Unit) => True) (fun _ t9 => zB dC dI (va_A [(h0, .inr (7, [.ref ac, cu, .int dd, .int th])), (ac, .inr (0, [.int 0, ed, .int 0]))] sz) [(h0, .inr (7, [.ref ac, cu, .int dd, .int 1])), (ac, .inr (0, [.int 0, ed, .int 0]))] [] t9) (va_A [(h0, .inr (7, [.ref ac, cu, .int dd, .int th])), (ac, .inr (0, [.int 0, ed, .int 0]))] sz)) 0 0 (va_A [(h0, .inr (7, [.ref ac, cu, .int dd, .int th])), (ac, .inr (0, [.int 0, ed, .int 0]))] sz) := by
  refine Met.ofW (cc := cX8_redeem) (maxL := 3) (ret := (some .int)) (by decide) rfl ?_
  intro p e s m args below meth c s₁ B hml hv
  obtain ⟨rfl, hsz, hP, hK, hD0, hQ⟩ := hv
  have hx := B.exec
  have hb := B.bytes
  have hr := B.returns
  have hts : ∀ w ∈ zG, w.before _ s = true := fun w h => atoms_spec (ws := ws_X8_redeem) B.pre w (List.mem_cons_of_mem _ h)
  have hown : s.vm.findClass RX8 = some m.cls := findClass_of_methodNamed B.named
  have hlocks := B.notSynchronized
  subst hsz
  have hD := hD0.self (sz := s.heap.size)
  generalize hAe : va_A [(h0, .inr (7, [.ref ac, cu, .int dd, .int th])), (ac, .inr (0, [.int 0, ed, .int 0]))] s.heap.size = A at hD hQ ⊢
  have hA : ∀ q : Nat, s.heap.size ≤ q → A q := fun q h => by rw [← hAe]; exact Or.inr h
  have hS : va_S A s.heap s.heap [] := va_S.rf
  have hP : va_P (dC, dI) zc [(h0, .inr (7, [.ref ac, cu, .int dd, .int th])), (ac, .inr (0, [.int 0, ed, .int 0]))] s.heap := hP
  have hl := lv_entry ([.ref h0, .int a1, .int a2]) (n := 3) (Nat.le_of_ble_eq_true rfl)
  rw [lg_entry_eq]
  generalize (lg_sl ([.ref h0, .int a1, .int a2]) ++ List.replicate (3 - (lg_sl ([.ref h0, .int a1, .int a2])).length) Slot.unset).toArray = ls at hl ⊢
  have hl : lv_has ls 3 [(0, .ref h0), (1, .int a1), (2, .int a2)] := hl
  refine lv_aload_n hx hb dX8_redeem_0 rfl (lv_at hl 0 rfl) ?_
  refine lv_aload_n hx hb dX8_redeem_1 rfl (lv_at hl 0 rfl) ?_
  refine lv_iload_n hx hb dX8_redeem_2 rfl (lv_at hl 1 rfl) ?_
  refine vp_callSi (W.runV (As := [.int a1]) (rest := [.ref h0]) ⟨hx, hb, hml, hown, hts⟩ (c_isAccount l dC dI s.heap.size t h0 ac cu dd th a1 ed) (cwV 1 hts (zg_V kw_1432 kw_1434 kw_41 kw_70 kw_1435) rfl rfl rfl (by decide +kernel) ⟨Nat.le_of_ble_eq_true rfl, Nat.le_of_ble_eq_true rfl⟩) ⟨zA_blind, va_recv hK hP (ci := 7) (q0 := 0) rfl rfl, zA_pre hP hD hS hK hQ hA [0, 1] rfl rfl (by decide) [] rfl⟩ rfl rfl hl.1 rfl (lv_room (Nat.le_of_ble_eq_true rfl)) dX8_redeem_3 ⟨zl_b rfl, zl_b rfl⟩) (fun r hr => ?_)
  subst hr
  refine lv_iconst (v := 1) hx hb dX8_redeem_6 (by decide) ?_
  have hFc := va_free (wc := [(h0, .inr (7, [.ref ac, cu, .int dd, .int th]))]) hD hS hA [0] rfl
  refine va_calli (va_runV (As := [.int 0, .int 1]) (rest := []) ⟨hx, hb, hml, hown, hts⟩ (c_no0 l dC dI s.heap.size t h0 (.ref ac) cu dd th 1) (cwV 2 hts (zg_V kw_1377 kw_1379 kw_40 kw_70 kw_1380) rfl rfl rfl (by decide +kernel) ⟨Nat.le_of_ble_eq_true rfl, Nat.le_of_ble_eq_true rfl⟩) ⟨zA_blind, va_recv hK hP (ci := 7) (q0 := 0) rfl rfl, zA_pre hP hD hS hK hQ hA [0] rfl rfl (by decide) [] rfl⟩ rfl rfl hl.1 rfl (lv_room (Nat.le_of_ble_eq_true rfl)) dX8_redeem_7 ⟨zl_b rfl, zl_b rfl⟩) hS (fun q _ h => hFc q h) hFc (fun r_1 u t9 H1 locs ht hvm hw hB hz1 hk1 hS => ?_)
  obtain ⟨hP1, hK1, hD1⟩ := hB
  rw [ht] at hP1
  have hK1 := va_K.moved hvm.symm hK1
  obtain ⟨hP, hD⟩ := va_join (wr := [(ac, .inr (0, [.int 0, ed, .int 0]))]) (w1 := [(h0, .inr (7, [.ref ac, cu, .int dd, .int 1]))]) hP hD [0] [1] rfl rfl (by decide) (by decide) hk1 hFc hP1 hD1
  have hK := (hK.sub (tys' := []) [] rfl).app hK1
  generalize H1 = H at hP hS ⊢
  have hP : va_P (dC, dI) zc [(ac, .inr (0, [.int 0, ed, .int 0])), (h0, .inr (7, [.ref ac, cu, .int dd, .int 1]))] H := hP
  have hD : va_D A [(ac, .inr (0, [.int 0, ed, .int 0])), (h0, .inr (7, [.ref ac, cu, .int dd, .int 1]))] := hD
  have hK : va_K (dC, dI) zc [] s := hK
  obtain rfl : r_1 = 1 := hw
  refine lv_if_ne (tgt := 65) hx hb dX8_redeem_10 (by decide) (fun c_2 => ?_) (fun c_2 => absurd c_2 (by decide))
  refine lv_iconst (v := 0) hx hb dX8_redeem_65 (by decide) ?_
  have hP9 := hP.sub (ws' := [(h0, .inr (7, [.ref ac, cu, .int dd, .int 1])), (ac, .inr (0, [.int 0, ed, .int 0]))]) [1, 0] rfl
  have hD9 := hD.sub (ws' := [(h0, .inr (7, [.ref ac, cu, .int dd, .int 1])), (ac, .inr (0, [.int 0, ed, .int 0]))]) [1, 0] (by decide) rfl
  have hK9 := hK.sub (tys' := []) [] rfl
  exact W.iret hx hb hr (fun t ht hW => ⟨⟨_, (), rfl, trivial, by rw [ht]; exact hP9, va_K.moved hW.alike hK9, hD9⟩, hS.F ht⟩) hS.2.2 dX8_redeem_66
set_option maxHeartbeats 4000000 in
set_option maxRecDepth 100000 in
/-- owed of the model: no such account -/
theorem m_owed (l : Launch) (dC : Nat → ClassId) (dI : Nat → Nat → Nat) (sz t : Nat) (h0 ac : Nat) (cu : Value) (dd th : Int32) (ed : Value) (a1 : Int32) : Met l yX8_owed ws_X8_owed ({ frames := 3, cells := 0, slots := 0, locals := 55 }) (zA dC dI [(h0, .inr (7, [.ref ac, cu, .int dd, .int th])), (ac, .inr (0, [.int 0, ed, .int 0]))] [] sz t [.ref h0, .int a1]) (va_Ql (fun r (_ : Unit) => True) (fun _ t9 => zB dC dI (va_A [(h0, .inr (7, [.ref ac, cu, .int dd, .int th])), (ac, .inr (0, [.int 0, ed, .int 0]))] sz) [(h0, .inr (7, [.ref ac, cu, .int dd, .int 1])), (ac, .inr (0, [.int 0, ed, .int 0]))] [] t9) (va_A [(h0, .inr (7, [.ref ac, cu, .int dd, .int th])), (ac, .inr (0, [.int 0, ed, .int 0]))] sz)) 0 0 (va_A [(h0, .inr (7, [.ref ac, cu, .int dd, .int th])), (ac, .inr (0, [.int 0, ed, .int 0]))] sz) := by
  refine Met.ofW (cc := cX8_owed) (maxL := 2) (ret := (some .long)) (by decide) rfl ?_
  intro p e s m args below meth c s₁ B hml hv
  obtain ⟨rfl, hsz, hP, hK, hD0, hQ⟩ := hv
  have hx := B.exec
  have hb := B.bytes
  have hr := B.returns
  have hts : ∀ w ∈ zG, w.before _ s = true := fun w h => atoms_spec (ws := ws_X8_owed) B.pre w (List.mem_cons_of_mem _ h)
  have hown : s.vm.findClass RX8 = some m.cls := findClass_of_methodNamed B.named
  have hlocks := B.notSynchronized
  subst hsz
  have hD := hD0.self (sz := s.heap.size)
  generalize hAe : va_A [(h0, .inr (7, [.ref ac, cu, .int dd, .int th])), (ac, .inr (0, [.int 0, ed, .int 0]))] s.heap.size = A at hD hQ ⊢
  have hA : ∀ q : Nat, s.heap.size ≤ q → A q := fun q h => by rw [← hAe]; exact Or.inr h
  have hS : va_S A s.heap s.heap [] := va_S.rf
  have hP : va_P (dC, dI) zc [(h0, .inr (7, [.ref ac, cu, .int dd, .int th])), (ac, .inr (0, [.int 0, ed, .int 0]))] s.heap := hP
  have hl := lv_entry ([.ref h0, .int a1]) (n := 2) (Nat.le_of_ble_eq_true rfl)
  rw [lg_entry_eq]
  generalize (lg_sl ([.ref h0, .int a1]) ++ List.replicate (2 - (lg_sl ([.ref h0, .int a1])).length) Slot.unset).toArray = ls at hl ⊢
  have hl : lv_has ls 2 [(0, .ref h0), (1, .int a1)] := hl
  refine lv_aload_n hx hb dX8_owed_0 rfl (lv_at hl 0 rfl) ?_
  refine lv_aload_n hx hb dX8_owed_1 rfl (lv_at hl 0 rfl) ?_
  refine lv_iload_n hx hb dX8_owed_2 rfl (lv_at hl 1 rfl) ?_
  refine vp_callSi (W.runV (As := [.int a1]) (rest := [.ref h0]) ⟨hx, hb, hml, hown, hts⟩ (c_isAccount l dC dI s.heap.size t h0 ac cu dd th a1 ed) (cwV 1 hts (zg_V kw_1432 kw_1434 kw_41 kw_70 kw_1435) rfl rfl rfl (by decide +kernel) ⟨Nat.le_of_ble_eq_true rfl, Nat.le_of_ble_eq_true rfl⟩) ⟨zA_blind, va_recv hK hP (ci := 7) (q0 := 0) rfl rfl, zA_pre hP hD hS hK hQ hA [0, 1] rfl rfl (by decide) [] rfl⟩ rfl rfl hl.1 rfl (lv_room (Nat.le_of_ble_eq_true rfl)) dX8_owed_3 ⟨zl_b rfl, zl_b rfl⟩) (fun r hr => ?_)
  subst hr
  refine lv_iconst (v := 1) hx hb dX8_owed_6 (by decide) ?_
  have hFc := va_free (wc := [(h0, .inr (7, [.ref ac, cu, .int dd, .int th]))]) hD hS hA [0] rfl
  refine va_calli (va_runV (As := [.int 0, .int 1]) (rest := []) ⟨hx, hb, hml, hown, hts⟩ (c_no0 l dC dI s.heap.size t h0 (.ref ac) cu dd th 1) (cwV 2 hts (zg_V kw_1377 kw_1379 kw_40 kw_70 kw_1380) rfl rfl rfl (by decide +kernel) ⟨Nat.le_of_ble_eq_true rfl, Nat.le_of_ble_eq_true rfl⟩) ⟨zA_blind, va_recv hK hP (ci := 7) (q0 := 0) rfl rfl, zA_pre hP hD hS hK hQ hA [0] rfl rfl (by decide) [] rfl⟩ rfl rfl hl.1 rfl (lv_room (Nat.le_of_ble_eq_true rfl)) dX8_owed_7 ⟨zl_b rfl, zl_b rfl⟩) hS (fun q _ h => hFc q h) hFc (fun r_1 u t9 H1 locs ht hvm hw hB hz1 hk1 hS => ?_)
  obtain ⟨hP1, hK1, hD1⟩ := hB
  rw [ht] at hP1
  have hK1 := va_K.moved hvm.symm hK1
  obtain ⟨hP, hD⟩ := va_join (wr := [(ac, .inr (0, [.int 0, ed, .int 0]))]) (w1 := [(h0, .inr (7, [.ref ac, cu, .int dd, .int 1]))]) hP hD [0] [1] rfl rfl (by decide) (by decide) hk1 hFc hP1 hD1
  have hK := (hK.sub (tys' := []) [] rfl).app hK1
  generalize H1 = H at hP hS ⊢
  have hP : va_P (dC, dI) zc [(ac, .inr (0, [.int 0, ed, .int 0])), (h0, .inr (7, [.ref ac, cu, .int dd, .int 1]))] H := hP
  have hD : va_D A [(ac, .inr (0, [.int 0, ed, .int 0])), (h0, .inr (7, [.ref ac, cu, .int dd, .int 1]))] := hD
  have hK : va_K (dC, dI) zc [] s := hK
  obtain rfl : r_1 = 1 := hw
  refine lv_if_eq (tgt := 17) hx hb dX8_owed_10 (by decide) (fun c_2 => absurd c_2 (by decide)) (fun c_2 => ?_)
  refine lv_lconst (v := 0) hx hb dX8_owed_13 (by decide) ?_
  refine lv_goto (tgt := 25) hx hb dX8_owed_14 (by decide) ?_
  have hP9 := hP.sub (ws' := [(h0, .inr (7, [.ref ac, cu, .int dd, .int 1])), (ac, .inr (0, [.int 0, ed, .int 0]))]) [1, 0] rfl
  have hD9 := hD.sub (ws' := [(h0, .inr (7, [.ref ac, cu, .int dd, .int 1])), (ac, .inr (0, [.int 0, ed, .int 0]))]) [1, 0] (by decide) rfl
  have hK9 := hK.sub (tys' := []) [] rfl
  exact W.lret hx hb hr (fun t ht hW => ⟨⟨_, (), rfl, trivial, by rw [ht]; exact hP9, va_K.moved hW.alike hK9, hD9⟩, hS.F ht⟩) hS.2.2 dX8_owed_25
set_option maxHeartbeats 4000000 in
set_option maxRecDepth 100000 in
/-- bucket of the model: no such account -/
theorem m_bucket (l : Launch) (dC : Nat → ClassId) (dI : Nat → Nat → Nat) (sz t : Nat) (h0 ac : Nat) (cu : Value) (dd th : Int32) (ed : Value) (a1 a2 : Int32) : Met l yX8_bucket ws_X8_bucket ({ frames := 3, cells := 0, slots := 0, locals := 55 }) (zA dC dI [(h0, .inr (7, [.ref ac, cu, .int dd, .int th])), (ac, .inr (0, [.int 0, ed, .int 0]))] [] sz t [.ref h0, .int a1, .int a2]) (va_Ql (fun r (_ : Unit) => True) (fun _ t9 => zB dC dI (va_A [(h0, .inr (7, [.ref ac, cu, .int dd, .int th])), (ac, .inr (0, [.int 0, ed, .int 0]))] sz) [(h0, .inr (7, [.ref ac, cu, .int dd, .int 1])), (ac, .inr (0, [.int 0, ed, .int 0]))] [] t9) (va_A [(h0, .inr (7, [.ref ac, cu, .int dd, .int th])), (ac, .inr (0, [.int 0, ed, .int 0]))] sz)) 0 0 (va_A [(h0, .inr (7, [.ref ac, cu, .int dd, .int th])), (ac, .inr (0, [.int 0, ed, .int 0]))] sz) := by
  refine Met.ofW (cc := cX8_bucket) (maxL := 3) (ret := (some .long)) (by decide) rfl ?_
  intro p e s m args below meth c s₁ B hml hv
  obtain ⟨rfl, hsz, hP, hK, hD0, hQ⟩ := hv
  have hx := B.exec
  have hb := B.bytes
  have hr := B.returns
  have hts : ∀ w ∈ zG, w.before _ s = true := fun w h => atoms_spec (ws := ws_X8_bucket) B.pre w (List.mem_cons_of_mem _ h)
  have hown : s.vm.findClass RX8 = some m.cls := findClass_of_methodNamed B.named
  have hlocks := B.notSynchronized
  subst hsz
  have hD := hD0.self (sz := s.heap.size)
  generalize hAe : va_A [(h0, .inr (7, [.ref ac, cu, .int dd, .int th])), (ac, .inr (0, [.int 0, ed, .int 0]))] s.heap.size = A at hD hQ ⊢
  have hA : ∀ q : Nat, s.heap.size ≤ q → A q := fun q h => by rw [← hAe]; exact Or.inr h
  have hS : va_S A s.heap s.heap [] := va_S.rf
  have hP : va_P (dC, dI) zc [(h0, .inr (7, [.ref ac, cu, .int dd, .int th])), (ac, .inr (0, [.int 0, ed, .int 0]))] s.heap := hP
  have hl := lv_entry ([.ref h0, .int a1, .int a2]) (n := 3) (Nat.le_of_ble_eq_true rfl)
  rw [lg_entry_eq]
  generalize (lg_sl ([.ref h0, .int a1, .int a2]) ++ List.replicate (3 - (lg_sl ([.ref h0, .int a1, .int a2])).length) Slot.unset).toArray = ls at hl ⊢
  have hl : lv_has ls 3 [(0, .ref h0), (1, .int a1), (2, .int a2)] := hl
  refine lv_aload_n hx hb dX8_bucket_0 rfl (lv_at hl 0 rfl) ?_
  refine lv_aload_n hx hb dX8_bucket_1 rfl (lv_at hl 0 rfl) ?_
  refine lv_iload_n hx hb dX8_bucket_2 rfl (lv_at hl 1 rfl) ?_
  refine vp_callSi (W.runV (As := [.int a1]) (rest := [.ref h0]) ⟨hx, hb, hml, hown, hts⟩ (c_isAccount l dC dI s.heap.size t h0 ac cu dd th a1 ed) (cwV 1 hts (zg_V kw_1432 kw_1434 kw_41 kw_70 kw_1435) rfl rfl rfl (by decide +kernel) ⟨Nat.le_of_ble_eq_true rfl, Nat.le_of_ble_eq_true rfl⟩) ⟨zA_blind, va_recv hK hP (ci := 7) (q0 := 0) rfl rfl, zA_pre hP hD hS hK hQ hA [0, 1] rfl rfl (by decide) [] rfl⟩ rfl rfl hl.1 rfl (lv_room (Nat.le_of_ble_eq_true rfl)) dX8_bucket_3 ⟨zl_b rfl, zl_b rfl⟩) (fun r hr => ?_)
  subst hr
  refine lv_iconst (v := 1) hx hb dX8_bucket_6 (by decide) ?_
  have hFc := va_free (wc := [(h0, .inr (7, [.ref ac, cu, .int dd, .int th]))]) hD hS hA [0] rfl
  refine va_calli (va_runV (As := [.int 0, .int 1]) (rest := []) ⟨hx, hb, hml, hown, hts⟩ (c_no0 l dC dI s.heap.size t h0 (.ref ac) cu dd th 1) (cwV 2 hts (zg_V kw_1377 kw_1379 kw_40 kw_70 kw_1380) rfl rfl rfl (by decide +kernel) ⟨Nat.le_of_ble_eq_true rfl, Nat.le_of_ble_eq_true rfl⟩) ⟨zA_blind, va_recv hK hP (ci := 7) (q0 := 0) rfl rfl, zA_pre hP hD hS hK hQ hA [0] rfl rfl (by decide) [] rfl⟩ rfl rfl hl.1 rfl (lv_room (Nat.le_of_ble_eq_true rfl)) dX8_bucket_7 ⟨zl_b rfl, zl_b rfl⟩) hS (fun q _ h => hFc q h) hFc (fun r_1 u t9 H1 locs ht hvm hw hB hz1 hk1 hS => ?_)
  obtain ⟨hP1, hK1, hD1⟩ := hB
  rw [ht] at hP1
  have hK1 := va_K.moved hvm.symm hK1
  obtain ⟨hP, hD⟩ := va_join (wr := [(ac, .inr (0, [.int 0, ed, .int 0]))]) (w1 := [(h0, .inr (7, [.ref ac, cu, .int dd, .int 1]))]) hP hD [0] [1] rfl rfl (by decide) (by decide) hk1 hFc hP1 hD1
  have hK := (hK.sub (tys' := []) [] rfl).app hK1
  generalize H1 = H at hP hS ⊢
  have hP : va_P (dC, dI) zc [(ac, .inr (0, [.int 0, ed, .int 0])), (h0, .inr (7, [.ref ac, cu, .int dd, .int 1]))] H := hP
  have hD : va_D A [(ac, .inr (0, [.int 0, ed, .int 0])), (h0, .inr (7, [.ref ac, cu, .int dd, .int 1]))] := hD
  have hK : va_K (dC, dI) zc [] s := hK
  obtain rfl : r_1 = 1 := hw
  refine lv_if_ne (tgt := 25) hx hb dX8_bucket_10 (by decide) (fun c_2 => ?_) (fun c_2 => absurd c_2 (by decide))
  refine lv_lconst (v := 0) hx hb dX8_bucket_25 (by decide) ?_
  refine lv_goto (tgt := 44) hx hb dX8_bucket_26 (by decide) ?_
  have hP9 := hP.sub (ws' := [(h0, .inr (7, [.ref ac, cu, .int dd, .int 1])), (ac, .inr (0, [.int 0, ed, .int 0]))]) [1, 0] rfl
  have hD9 := hD.sub (ws' := [(h0, .inr (7, [.ref ac, cu, .int dd, .int 1])), (ac, .inr (0, [.int 0, ed, .int 0]))]) [1, 0] (by decide) rfl
  have hK9 := hK.sub (tys' := []) [] rfl
  exact W.lret hx hb hr (fun t ht hW => ⟨⟨_, (), rfl, trivial, by rw [ht]; exact hP9, va_K.moved hW.alike hK9, hD9⟩, hS.F ht⟩) hS.2.2 dX8_bucket_44
set_option maxHeartbeats 4000000 in
set_option maxRecDepth 100000 in
/-- credit of the model: no such account -/
theorem m_credit (l : Launch) (dC : Nat → ClassId) (dI : Nat → Nat → Nat) (sz t : Nat) (h0 ac : Nat) (cu : Value) (dd th : Int32) (ed : Value) (a1 : Int32) : Met l yX8_credit ws_X8_credit ({ frames := 3, cells := 0, slots := 0, locals := 55 }) (zA dC dI [(h0, .inr (7, [.ref ac, cu, .int dd, .int th])), (ac, .inr (0, [.int 0, ed, .int 0]))] [] sz t [.ref h0, .int a1]) (va_Ql (fun r (_ : Unit) => True) (fun _ t9 => zB dC dI (va_A [(h0, .inr (7, [.ref ac, cu, .int dd, .int th])), (ac, .inr (0, [.int 0, ed, .int 0]))] sz) [(h0, .inr (7, [.ref ac, cu, .int dd, .int 1])), (ac, .inr (0, [.int 0, ed, .int 0]))] [] t9) (va_A [(h0, .inr (7, [.ref ac, cu, .int dd, .int th])), (ac, .inr (0, [.int 0, ed, .int 0]))] sz)) 0 0 (va_A [(h0, .inr (7, [.ref ac, cu, .int dd, .int th])), (ac, .inr (0, [.int 0, ed, .int 0]))] sz) := by
  refine Met.ofW (cc := cX8_credit) (maxL := 2) (ret := (some .long)) (by decide) rfl ?_
  intro p e s m args below meth c s₁ B hml hv
  obtain ⟨rfl, hsz, hP, hK, hD0, hQ⟩ := hv
  have hx := B.exec
  have hb := B.bytes
  have hr := B.returns
  have hts : ∀ w ∈ zG, w.before _ s = true := fun w h => atoms_spec (ws := ws_X8_credit) B.pre w (List.mem_cons_of_mem _ h)
  have hown : s.vm.findClass RX8 = some m.cls := findClass_of_methodNamed B.named
  have hlocks := B.notSynchronized
  subst hsz
  have hD := hD0.self (sz := s.heap.size)
  generalize hAe : va_A [(h0, .inr (7, [.ref ac, cu, .int dd, .int th])), (ac, .inr (0, [.int 0, ed, .int 0]))] s.heap.size = A at hD hQ ⊢
  have hA : ∀ q : Nat, s.heap.size ≤ q → A q := fun q h => by rw [← hAe]; exact Or.inr h
  have hS : va_S A s.heap s.heap [] := va_S.rf
  have hP : va_P (dC, dI) zc [(h0, .inr (7, [.ref ac, cu, .int dd, .int th])), (ac, .inr (0, [.int 0, ed, .int 0]))] s.heap := hP
  have hl := lv_entry ([.ref h0, .int a1]) (n := 2) (Nat.le_of_ble_eq_true rfl)
  rw [lg_entry_eq]
  generalize (lg_sl ([.ref h0, .int a1]) ++ List.replicate (2 - (lg_sl ([.ref h0, .int a1])).length) Slot.unset).toArray = ls at hl ⊢
  have hl : lv_has ls 2 [(0, .ref h0), (1, .int a1)] := hl
  refine lv_aload_n hx hb dX8_credit_0 rfl (lv_at hl 0 rfl) ?_
  refine lv_aload_n hx hb dX8_credit_1 rfl (lv_at hl 0 rfl) ?_
  refine lv_iload_n hx hb dX8_credit_2 rfl (lv_at hl 1 rfl) ?_
  refine vp_callSi (W.runV (As := [.int a1]) (rest := [.ref h0]) ⟨hx, hb, hml, hown, hts⟩ (c_isAccount l dC dI s.heap.size t h0 ac cu dd th a1 ed) (cwV 1 hts (zg_V kw_1432 kw_1434 kw_41 kw_70 kw_1435) rfl rfl rfl (by decide +kernel) ⟨Nat.le_of_ble_eq_true rfl, Nat.le_of_ble_eq_true rfl⟩) ⟨zA_blind, va_recv hK hP (ci := 7) (q0 := 0) rfl rfl, zA_pre hP hD hS hK hQ hA [0, 1] rfl rfl (by decide) [] rfl⟩ rfl rfl hl.1 rfl (lv_room (Nat.le_of_ble_eq_true rfl)) dX8_credit_3 ⟨zl_b rfl, zl_b rfl⟩) (fun r hr => ?_)
  subst hr
  refine lv_iconst (v := 1) hx hb dX8_credit_6 (by decide) ?_
  have hFc := va_free (wc := [(h0, .inr (7, [.ref ac, cu, .int dd, .int th]))]) hD hS hA [0] rfl
  refine va_calli (va_runV (As := [.int 0, .int 1]) (rest := []) ⟨hx, hb, hml, hown, hts⟩ (c_no0 l dC dI s.heap.size t h0 (.ref ac) cu dd th 1) (cwV 2 hts (zg_V kw_1377 kw_1379 kw_40 kw_70 kw_1380) rfl rfl rfl (by decide +kernel) ⟨Nat.le_of_ble_eq_true rfl, Nat.le_of_ble_eq_true rfl⟩) ⟨zA_blind, va_recv hK hP (ci := 7) (q0 := 0) rfl rfl, zA_pre hP hD hS hK hQ hA [0] rfl rfl (by decide) [] rfl⟩ rfl rfl hl.1 rfl (lv_room (Nat.le_of_ble_eq_true rfl)) dX8_credit_7 ⟨zl_b rfl, zl_b rfl⟩) hS (fun q _ h => hFc q h) hFc (fun r_1 u t9 H1 locs ht hvm hw hB hz1 hk1 hS => ?_)
  obtain ⟨hP1, hK1, hD1⟩ := hB
  rw [ht] at hP1
  have hK1 := va_K.moved hvm.symm hK1
  obtain ⟨hP, hD⟩ := va_join (wr := [(ac, .inr (0, [.int 0, ed, .int 0]))]) (w1 := [(h0, .inr (7, [.ref ac, cu, .int dd, .int 1]))]) hP hD [0] [1] rfl rfl (by decide) (by decide) hk1 hFc hP1 hD1
  have hK := (hK.sub (tys' := []) [] rfl).app hK1
  generalize H1 = H at hP hS ⊢
  have hP : va_P (dC, dI) zc [(ac, .inr (0, [.int 0, ed, .int 0])), (h0, .inr (7, [.ref ac, cu, .int dd, .int 1]))] H := hP
  have hD : va_D A [(ac, .inr (0, [.int 0, ed, .int 0])), (h0, .inr (7, [.ref ac, cu, .int dd, .int 1]))] := hD
  have hK : va_K (dC, dI) zc [] s := hK
  obtain rfl : r_1 = 1 := hw
  refine lv_if_eq (tgt := 17) hx hb dX8_credit_10 (by decide) (fun c_2 => absurd c_2 (by decide)) (fun c_2 => ?_)
  refine lv_lconst (v := 0) hx hb dX8_credit_13 (by decide) ?_
  refine lv_goto (tgt := 25) hx hb dX8_credit_14 (by decide) ?_
  have hP9 := hP.sub (ws' := [(h0, .inr (7, [.ref ac, cu, .int dd, .int 1])), (ac, .inr (0, [.int 0, ed, .int 0]))]) [1, 0] rfl
  have hD9 := hD.sub (ws' := [(h0, .inr (7, [.ref ac, cu, .int dd, .int 1])), (ac, .inr (0, [.int 0, ed, .int 0]))]) [1, 0] (by decide) rfl
  have hK9 := hK.sub (tys' := []) [] rfl
  exact W.lret hx hb hr (fun t ht hW => ⟨⟨_, (), rfl, trivial, by rw [ht]; exact hP9, va_K.moved hW.alike hK9, hD9⟩, hS.F ht⟩) hS.2.2 dX8_credit_25
set_option maxHeartbeats 4000000 in
set_option maxRecDepth 100000 in
/-- statement of the model: no such account -/
theorem m_statement (l : Launch) (dC : Nat → ClassId) (dI : Nat → Nat → Nat) (sz t : Nat) (h0 ac : Nat) (cu : Value) (dd th : Int32) (ed : Value) (a1 a2 : Int32) : Met l yX8_statement ws_X8_statement ({ frames := 3, cells := 0, slots := 0, locals := 55 }) (zA dC dI [(h0, .inr (7, [.ref ac, cu, .int dd, .int th])), (ac, .inr (0, [.int 0, ed, .int 0]))] [] sz t [.ref h0, .int a1, .int a2]) (va_Ql (fun r (_ : Unit) => True) (fun _ t9 => zB dC dI (va_A [(h0, .inr (7, [.ref ac, cu, .int dd, .int th])), (ac, .inr (0, [.int 0, ed, .int 0]))] sz) [(h0, .inr (7, [.ref ac, cu, .int dd, .int 1])), (ac, .inr (0, [.int 0, ed, .int 0]))] [] t9) (va_A [(h0, .inr (7, [.ref ac, cu, .int dd, .int th])), (ac, .inr (0, [.int 0, ed, .int 0]))] sz)) 0 0 (va_A [(h0, .inr (7, [.ref ac, cu, .int dd, .int th])), (ac, .inr (0, [.int 0, ed, .int 0]))] sz) := by
  refine Met.ofW (cc := cX8_statement) (maxL := 3) (ret := (some .long)) (by decide) rfl ?_
  intro p e s m args below meth c s₁ B hml hv
  obtain ⟨rfl, hsz, hP, hK, hD0, hQ⟩ := hv
  have hx := B.exec
  have hb := B.bytes
  have hr := B.returns
  have hts : ∀ w ∈ zG, w.before _ s = true := fun w h => atoms_spec (ws := ws_X8_statement) B.pre w (List.mem_cons_of_mem _ h)
  have hown : s.vm.findClass RX8 = some m.cls := findClass_of_methodNamed B.named
  have hlocks := B.notSynchronized
  subst hsz
  have hD := hD0.self (sz := s.heap.size)
  generalize hAe : va_A [(h0, .inr (7, [.ref ac, cu, .int dd, .int th])), (ac, .inr (0, [.int 0, ed, .int 0]))] s.heap.size = A at hD hQ ⊢
  have hA : ∀ q : Nat, s.heap.size ≤ q → A q := fun q h => by rw [← hAe]; exact Or.inr h
  have hS : va_S A s.heap s.heap [] := va_S.rf
  have hP : va_P (dC, dI) zc [(h0, .inr (7, [.ref ac, cu, .int dd, .int th])), (ac, .inr (0, [.int 0, ed, .int 0]))] s.heap := hP
  have hl := lv_entry ([.ref h0, .int a1, .int a2]) (n := 3) (Nat.le_of_ble_eq_true rfl)
  rw [lg_entry_eq]
  generalize (lg_sl ([.ref h0, .int a1, .int a2]) ++ List.replicate (3 - (lg_sl ([.ref h0, .int a1, .int a2])).length) Slot.unset).toArray = ls at hl ⊢
  have hl : lv_has ls 3 [(0, .ref h0), (1, .int a1), (2, .int a2)] := hl
  refine lv_aload_n hx hb dX8_statement_0 rfl (lv_at hl 0 rfl) ?_
  refine lv_aload_n hx hb dX8_statement_1 rfl (lv_at hl 0 rfl) ?_
  refine lv_iload_n hx hb dX8_statement_2 rfl (lv_at hl 1 rfl) ?_
  refine vp_callSi (W.runV (As := [.int a1]) (rest := [.ref h0]) ⟨hx, hb, hml, hown, hts⟩ (c_isAccount l dC dI s.heap.size t h0 ac cu dd th a1 ed) (cwV 1 hts (zg_V kw_1432 kw_1434 kw_41 kw_70 kw_1435) rfl rfl rfl (by decide +kernel) ⟨Nat.le_of_ble_eq_true rfl, Nat.le_of_ble_eq_true rfl⟩) ⟨zA_blind, va_recv hK hP (ci := 7) (q0 := 0) rfl rfl, zA_pre hP hD hS hK hQ hA [0, 1] rfl rfl (by decide) [] rfl⟩ rfl rfl hl.1 rfl (lv_room (Nat.le_of_ble_eq_true rfl)) dX8_statement_3 ⟨zl_b rfl, zl_b rfl⟩) (fun r hr => ?_)
  subst hr
  refine lv_iconst (v := 1) hx hb dX8_statement_6 (by decide) ?_
  have hFc := va_free (wc := [(h0, .inr (7, [.ref ac, cu, .int dd, .int th]))]) hD hS hA [0] rfl
  refine va_calli (va_runV (As := [.int 0, .int 1]) (rest := []) ⟨hx, hb, hml, hown, hts⟩ (c_no0 l dC dI s.heap.size t h0 (.ref ac) cu dd th 1) (cwV 2 hts (zg_V kw_1377 kw_1379 kw_40 kw_70 kw_1380) rfl rfl rfl (by decide +kernel) ⟨Nat.le_of_ble_eq_true rfl, Nat.le_of_ble_eq_true rfl⟩) ⟨zA_blind, va_recv hK hP (ci := 7) (q0 := 0) rfl rfl, zA_pre hP hD hS hK hQ hA [0] rfl rfl (by decide) [] rfl⟩ rfl rfl hl.1 rfl (lv_room (Nat.le_of_ble_eq_true rfl)) dX8_statement_7 ⟨zl_b rfl, zl_b rfl⟩) hS (fun q _ h => hFc q h) hFc (fun r_1 u t9 H1 locs ht hvm hw hB hz1 hk1 hS => ?_)
  obtain ⟨hP1, hK1, hD1⟩ := hB
  rw [ht] at hP1
  have hK1 := va_K.moved hvm.symm hK1
  obtain ⟨hP, hD⟩ := va_join (wr := [(ac, .inr (0, [.int 0, ed, .int 0]))]) (w1 := [(h0, .inr (7, [.ref ac, cu, .int dd, .int 1]))]) hP hD [0] [1] rfl rfl (by decide) (by decide) hk1 hFc hP1 hD1
  have hK := (hK.sub (tys' := []) [] rfl).app hK1
  generalize H1 = H at hP hS ⊢
  have hP : va_P (dC, dI) zc [(ac, .inr (0, [.int 0, ed, .int 0])), (h0, .inr (7, [.ref ac, cu, .int dd, .int 1]))] H := hP
  have hD : va_D A [(ac, .inr (0, [.int 0, ed, .int 0])), (h0, .inr (7, [.ref ac, cu, .int dd, .int 1]))] := hD
  have hK : va_K (dC, dI) zc [] s := hK
  obtain rfl : r_1 = 1 := hw
  refine lv_if_ne (tgt := 26) hx hb dX8_statement_10 (by decide) (fun c_2 => ?_) (fun c_2 => absurd c_2 (by decide))
  refine lv_lconst (v := 0) hx hb dX8_statement_26 (by decide) ?_
  refine lv_goto (tgt := 40) hx hb dX8_statement_27 (by decide) ?_
  have hP9 := hP.sub (ws' := [(h0, .inr (7, [.ref ac, cu, .int dd, .int 1])), (ac, .inr (0, [.int 0, ed, .int 0]))]) [1, 0] rfl
  have hD9 := hD.sub (ws' := [(h0, .inr (7, [.ref ac, cu, .int dd, .int 1])), (ac, .inr (0, [.int 0, ed, .int 0]))]) [1, 0] (by decide) rfl
  have hK9 := hK.sub (tys' := []) [] rfl
  exact W.lret hx hb hr (fun t ht hW => ⟨⟨_, (), rfl, trivial, by rw [ht]; exact hP9, va_K.moved hW.alike hK9, hD9⟩, hS.F ht⟩) hS.2.2 dX8_statement_40
set_option maxHeartbeats 4000000 in
set_option maxRecDepth 100000 in
/-- told of the model: no such account -/
theorem m_told (l : Launch) (dC : Nat → ClassId) (dI : Nat → Nat → Nat) (sz t : Nat) (h0 ac : Nat) (cu : Value) (dd th : Int32) (ed : Value) (a1 a2 : Int32) : Met l yX8_told ws_X8_told ({ frames := 3, cells := 0, slots := 0, locals := 55 }) (zA dC dI [(h0, .inr (7, [.ref ac, cu, .int dd, .int th])), (ac, .inr (0, [.int 0, ed, .int 0]))] [] sz t [.ref h0, .int a1, .int a2]) (va_Ql (fun r (_ : Unit) => True) (fun _ t9 => zB dC dI (va_A [(h0, .inr (7, [.ref ac, cu, .int dd, .int th])), (ac, .inr (0, [.int 0, ed, .int 0]))] sz) [(h0, .inr (7, [.ref ac, cu, .int dd, .int 1])), (ac, .inr (0, [.int 0, ed, .int 0]))] [] t9) (va_A [(h0, .inr (7, [.ref ac, cu, .int dd, .int th])), (ac, .inr (0, [.int 0, ed, .int 0]))] sz)) 0 0 (va_A [(h0, .inr (7, [.ref ac, cu, .int dd, .int th])), (ac, .inr (0, [.int 0, ed, .int 0]))] sz) := by
  refine Met.ofW (cc := cX8_told) (maxL := 3) (ret := (some .long)) (by decide) rfl ?_
  intro p e s m args below meth c s₁ B hml hv
  obtain ⟨rfl, hsz, hP, hK, hD0, hQ⟩ := hv
  have hx := B.exec
  have hb := B.bytes
  have hr := B.returns
  have hts : ∀ w ∈ zG, w.before _ s = true := fun w h => atoms_spec (ws := ws_X8_told) B.pre w (List.mem_cons_of_mem _ h)
  have hown : s.vm.findClass RX8 = some m.cls := findClass_of_methodNamed B.named
  have hlocks := B.notSynchronized
  subst hsz
  have hD := hD0.self (sz := s.heap.size)
  generalize hAe : va_A [(h0, .inr (7, [.ref ac, cu, .int dd, .int th])), (ac, .inr (0, [.int 0, ed, .int 0]))] s.heap.size = A at hD hQ ⊢
  have hA : ∀ q : Nat, s.heap.size ≤ q → A q := fun q h => by rw [← hAe]; exact Or.inr h
  have hS : va_S A s.heap s.heap [] := va_S.rf
  have hP : va_P (dC, dI) zc [(h0, .inr (7, [.ref ac, cu, .int dd, .int th])), (ac, .inr (0, [.int 0, ed, .int 0]))] s.heap := hP
  have hl := lv_entry ([.ref h0, .int a1, .int a2]) (n := 3) (Nat.le_of_ble_eq_true rfl)
  rw [lg_entry_eq]
  generalize (lg_sl ([.ref h0, .int a1, .int a2]) ++ List.replicate (3 - (lg_sl ([.ref h0, .int a1, .int a2])).length) Slot.unset).toArray = ls at hl ⊢
  have hl : lv_has ls 3 [(0, .ref h0), (1, .int a1), (2, .int a2)] := hl
  refine lv_aload_n hx hb dX8_told_0 rfl (lv_at hl 0 rfl) ?_
  refine lv_aload_n hx hb dX8_told_1 rfl (lv_at hl 0 rfl) ?_
  refine lv_iload_n hx hb dX8_told_2 rfl (lv_at hl 1 rfl) ?_
  refine vp_callSi (W.runV (As := [.int a1]) (rest := [.ref h0]) ⟨hx, hb, hml, hown, hts⟩ (c_isAccount l dC dI s.heap.size t h0 ac cu dd th a1 ed) (cwV 1 hts (zg_V kw_1432 kw_1434 kw_41 kw_70 kw_1435) rfl rfl rfl (by decide +kernel) ⟨Nat.le_of_ble_eq_true rfl, Nat.le_of_ble_eq_true rfl⟩) ⟨zA_blind, va_recv hK hP (ci := 7) (q0 := 0) rfl rfl, zA_pre hP hD hS hK hQ hA [0, 1] rfl rfl (by decide) [] rfl⟩ rfl rfl hl.1 rfl (lv_room (Nat.le_of_ble_eq_true rfl)) dX8_told_3 ⟨zl_b rfl, zl_b rfl⟩) (fun r hr => ?_)
  subst hr
  refine lv_iconst (v := 1) hx hb dX8_told_6 (by decide) ?_
  have hFc := va_free (wc := [(h0, .inr (7, [.ref ac, cu, .int dd, .int th]))]) hD hS hA [0] rfl
  refine va_calli (va_runV (As := [.int 0, .int 1]) (rest := []) ⟨hx, hb, hml, hown, hts⟩ (c_no0 l dC dI s.heap.size t h0 (.ref ac) cu dd th 1) (cwV 2 hts (zg_V kw_1377 kw_1379 kw_40 kw_70 kw_1380) rfl rfl rfl (by decide +kernel) ⟨Nat.le_of_ble_eq_true rfl, Nat.le_of_ble_eq_true rfl⟩) ⟨zA_blind, va_recv hK hP (ci := 7) (q0 := 0) rfl rfl, zA_pre hP hD hS hK hQ hA [0] rfl rfl (by decide) [] rfl⟩ rfl rfl hl.1 rfl (lv_room (Nat.le_of_ble_eq_true rfl)) dX8_told_7 ⟨zl_b rfl, zl_b rfl⟩) hS (fun q _ h => hFc q h) hFc (fun r_1 u t9 H1 locs ht hvm hw hB hz1 hk1 hS => ?_)
  obtain ⟨hP1, hK1, hD1⟩ := hB
  rw [ht] at hP1
  have hK1 := va_K.moved hvm.symm hK1
  obtain ⟨hP, hD⟩ := va_join (wr := [(ac, .inr (0, [.int 0, ed, .int 0]))]) (w1 := [(h0, .inr (7, [.ref ac, cu, .int dd, .int 1]))]) hP hD [0] [1] rfl rfl (by decide) (by decide) hk1 hFc hP1 hD1
  have hK := (hK.sub (tys' := []) [] rfl).app hK1
  generalize H1 = H at hP hS ⊢
  have hP : va_P (dC, dI) zc [(ac, .inr (0, [.int 0, ed, .int 0])), (h0, .inr (7, [.ref ac, cu, .int dd, .int 1]))] H := hP
  have hD : va_D A [(ac, .inr (0, [.int 0, ed, .int 0])), (h0, .inr (7, [.ref ac, cu, .int dd, .int 1]))] := hD
  have hK : va_K (dC, dI) zc [] s := hK
  obtain rfl : r_1 = 1 := hw
  refine lv_if_ne (tgt := 27) hx hb dX8_told_10 (by decide) (fun c_2 => ?_) (fun c_2 => absurd c_2 (by decide))
  refine lv_lconst (v := 0) hx hb dX8_told_27 (by decide) ?_
  refine lv_goto (tgt := 52) hx hb dX8_told_28 (by decide) ?_
  have hP9 := hP.sub (ws' := [(h0, .inr (7, [.ref ac, cu, .int dd, .int 1])), (ac, .inr (0, [.int 0, ed, .int 0]))]) [1, 0] rfl
  have hD9 := hD.sub (ws' := [(h0, .inr (7, [.ref ac, cu, .int dd, .int 1])), (ac, .inr (0, [.int 0, ed, .int 0]))]) [1, 0] (by decide) rfl
  have hK9 := hK.sub (tys' := []) [] rfl
  exact W.lret hx hb hr (fun t ht hW => ⟨⟨_, (), rfl, trivial, by rw [ht]; exact hP9, va_K.moved hW.alike hK9, hD9⟩, hS.F ht⟩) hS.2.2 dX8_told_52
set_option maxHeartbeats 4000000 in
set_option maxRecDepth 100000 in
/-- difference of the model: no such account -/
theorem m_difference (l : Launch) (dC : Nat → ClassId) (dI : Nat → Nat → Nat) (sz t : Nat) (h0 ac : Nat) (cu : Value) (dd th : Int32) (ed : Value) (a1 a2 : Int32) : Met l yX8_difference ws_X8_difference ({ frames := 3, cells := 0, slots := 0, locals := 55 }) (zA dC dI [(h0, .inr (7, [.ref ac, cu, .int dd, .int th])), (ac, .inr (0, [.int 0, ed, .int 0]))] [] sz t [.ref h0, .int a1, .int a2]) (va_Ql (fun r (_ : Unit) => True) (fun _ t9 => zB dC dI (va_A [(h0, .inr (7, [.ref ac, cu, .int dd, .int th])), (ac, .inr (0, [.int 0, ed, .int 0]))] sz) [(h0, .inr (7, [.ref ac, cu, .int dd, .int 1])), (ac, .inr (0, [.int 0, ed, .int 0]))] [] t9) (va_A [(h0, .inr (7, [.ref ac, cu, .int dd, .int th])), (ac, .inr (0, [.int 0, ed, .int 0]))] sz)) 0 0 (va_A [(h0, .inr (7, [.ref ac, cu, .int dd, .int th])), (ac, .inr (0, [.int 0, ed, .int 0]))] sz) := by
  refine Met.ofW (cc := cX8_difference) (maxL := 3) (ret := (some .long)) (by decide) rfl ?_
  intro p e s m args below meth c s₁ B hml hv
  obtain ⟨rfl, hsz, hP, hK, hD0, hQ⟩ := hv
  have hx := B.exec
  have hb := B.bytes
  have hr := B.returns
  have hts : ∀ w ∈ zG, w.before _ s = true := fun w h => atoms_spec (ws := ws_X8_difference) B.pre w (List.mem_cons_of_mem _ h)
  have hown : s.vm.findClass RX8 = some m.cls := findClass_of_methodNamed B.named
  have hlocks := B.notSynchronized
  subst hsz
  have hD := hD0.self (sz := s.heap.size)
  generalize hAe : va_A [(h0, .inr (7, [.ref ac, cu, .int dd, .int th])), (ac, .inr (0, [.int 0, ed, .int 0]))] s.heap.size = A at hD hQ ⊢
  have hA : ∀ q : Nat, s.heap.size ≤ q → A q := fun q h => by rw [← hAe]; exact Or.inr h
  have hS : va_S A s.heap s.heap [] := va_S.rf
  have hP : va_P (dC, dI) zc [(h0, .inr (7, [.ref ac, cu, .int dd, .int th])), (ac, .inr (0, [.int 0, ed, .int 0]))] s.heap := hP
  have hl := lv_entry ([.ref h0, .int a1, .int a2]) (n := 3) (Nat.le_of_ble_eq_true rfl)
  rw [lg_entry_eq]
  generalize (lg_sl ([.ref h0, .int a1, .int a2]) ++ List.replicate (3 - (lg_sl ([.ref h0, .int a1, .int a2])).length) Slot.unset).toArray = ls at hl ⊢
  have hl : lv_has ls 3 [(0, .ref h0), (1, .int a1), (2, .int a2)] := hl
  refine lv_aload_n hx hb dX8_difference_0 rfl (lv_at hl 0 rfl) ?_
  refine lv_aload_n hx hb dX8_difference_1 rfl (lv_at hl 0 rfl) ?_
  refine lv_iload_n hx hb dX8_difference_2 rfl (lv_at hl 1 rfl) ?_
  refine vp_callSi (W.runV (As := [.int a1]) (rest := [.ref h0]) ⟨hx, hb, hml, hown, hts⟩ (c_isAccount l dC dI s.heap.size t h0 ac cu dd th a1 ed) (cwV 1 hts (zg_V kw_1432 kw_1434 kw_41 kw_70 kw_1435) rfl rfl rfl (by decide +kernel) ⟨Nat.le_of_ble_eq_true rfl, Nat.le_of_ble_eq_true rfl⟩) ⟨zA_blind, va_recv hK hP (ci := 7) (q0 := 0) rfl rfl, zA_pre hP hD hS hK hQ hA [0, 1] rfl rfl (by decide) [] rfl⟩ rfl rfl hl.1 rfl (lv_room (Nat.le_of_ble_eq_true rfl)) dX8_difference_3 ⟨zl_b rfl, zl_b rfl⟩) (fun r hr => ?_)
  subst hr
  refine lv_iconst (v := 1) hx hb dX8_difference_6 (by decide) ?_
  have hFc := va_free (wc := [(h0, .inr (7, [.ref ac, cu, .int dd, .int th]))]) hD hS hA [0] rfl
  refine va_calli (va_runV (As := [.int 0, .int 1]) (rest := []) ⟨hx, hb, hml, hown, hts⟩ (c_no0 l dC dI s.heap.size t h0 (.ref ac) cu dd th 1) (cwV 2 hts (zg_V kw_1377 kw_1379 kw_40 kw_70 kw_1380) rfl rfl rfl (by decide +kernel) ⟨Nat.le_of_ble_eq_true rfl, Nat.le_of_ble_eq_true rfl⟩) ⟨zA_blind, va_recv hK hP (ci := 7) (q0 := 0) rfl rfl, zA_pre hP hD hS hK hQ hA [0] rfl rfl (by decide) [] rfl⟩ rfl rfl hl.1 rfl (lv_room (Nat.le_of_ble_eq_true rfl)) dX8_difference_7 ⟨zl_b rfl, zl_b rfl⟩) hS (fun q _ h => hFc q h) hFc (fun r_1 u t9 H1 locs ht hvm hw hB hz1 hk1 hS => ?_)
  obtain ⟨hP1, hK1, hD1⟩ := hB
  rw [ht] at hP1
  have hK1 := va_K.moved hvm.symm hK1
  obtain ⟨hP, hD⟩ := va_join (wr := [(ac, .inr (0, [.int 0, ed, .int 0]))]) (w1 := [(h0, .inr (7, [.ref ac, cu, .int dd, .int 1]))]) hP hD [0] [1] rfl rfl (by decide) (by decide) hk1 hFc hP1 hD1
  have hK := (hK.sub (tys' := []) [] rfl).app hK1
  generalize H1 = H at hP hS ⊢
  have hP : va_P (dC, dI) zc [(ac, .inr (0, [.int 0, ed, .int 0])), (h0, .inr (7, [.ref ac, cu, .int dd, .int 1]))] H := hP
  have hD : va_D A [(ac, .inr (0, [.int 0, ed, .int 0])), (h0, .inr (7, [.ref ac, cu, .int dd, .int 1]))] := hD
  have hK : va_K (dC, dI) zc [] s := hK
  obtain rfl : r_1 = 1 := hw
  refine lv_if_ne (tgt := 27) hx hb dX8_difference_10 (by decide) (fun c_2 => ?_) (fun c_2 => absurd c_2 (by decide))
  refine lv_lconst (v := 0) hx hb dX8_difference_27 (by decide) ?_
  refine lv_goto (tgt := 63) hx hb dX8_difference_28 (by decide) ?_
  have hP9 := hP.sub (ws' := [(h0, .inr (7, [.ref ac, cu, .int dd, .int 1])), (ac, .inr (0, [.int 0, ed, .int 0]))]) [1, 0] rfl
  have hD9 := hD.sub (ws' := [(h0, .inr (7, [.ref ac, cu, .int dd, .int 1])), (ac, .inr (0, [.int 0, ed, .int 0]))]) [1, 0] (by decide) rfl
  have hK9 := hK.sub (tys' := []) [] rfl
  exact W.lret hx hb hr (fun t ht hW => ⟨⟨_, (), rfl, trivial, by rw [ht]; exact hP9, va_K.moved hW.alike hK9, hD9⟩, hS.F ht⟩) hS.2.2 dX8_difference_63
set_option maxHeartbeats 4000000 in
set_option maxRecDepth 100000 in
/-- least of the model: no such account -/
theorem m_least (l : Launch) (dC : Nat → ClassId) (dI : Nat → Nat → Nat) (sz t : Nat) (h0 ac : Nat) (cu : Value) (dd th : Int32) (ed : Value) (a1 a2 : Int32) : Met l yX8_least ws_X8_least ({ frames := 3, cells := 0, slots := 0, locals := 55 }) (zA dC dI [(h0, .inr (7, [.ref ac, cu, .int dd, .int th])), (ac, .inr (0, [.int 0, ed, .int 0]))] [] sz t [.ref h0, .int a1, .int a2]) (va_Ql (fun r (_ : Unit) => True) (fun _ t9 => zB dC dI (va_A [(h0, .inr (7, [.ref ac, cu, .int dd, .int th])), (ac, .inr (0, [.int 0, ed, .int 0]))] sz) [(h0, .inr (7, [.ref ac, cu, .int dd, .int 1])), (ac, .inr (0, [.int 0, ed, .int 0]))] [] t9) (va_A [(h0, .inr (7, [.ref ac, cu, .int dd, .int th])), (ac, .inr (0, [.int 0, ed, .int 0]))] sz)) 0 0 (va_A [(h0, .inr (7, [.ref ac, cu, .int dd, .int th])), (ac, .inr (0, [.int 0, ed, .int 0]))] sz) := by
  refine Met.ofW (cc := cX8_least) (maxL := 3) (ret := (some .long)) (by decide) rfl ?_
  intro p e s m args below meth c s₁ B hml hv
  obtain ⟨rfl, hsz, hP, hK, hD0, hQ⟩ := hv
  have hx := B.exec
  have hb := B.bytes
  have hr := B.returns
  have hts : ∀ w ∈ zG, w.before _ s = true := fun w h => atoms_spec (ws := ws_X8_least) B.pre w (List.mem_cons_of_mem _ h)
  have hown : s.vm.findClass RX8 = some m.cls := findClass_of_methodNamed B.named
  have hlocks := B.notSynchronized
  subst hsz
  have hD := hD0.self (sz := s.heap.size)
  generalize hAe : va_A [(h0, .inr (7, [.ref ac, cu, .int dd, .int th])), (ac, .inr (0, [.int 0, ed, .int 0]))] s.heap.size = A at hD hQ ⊢
  have hA : ∀ q : Nat, s.heap.size ≤ q → A q := fun q h => by rw [← hAe]; exact Or.inr h
  have hS : va_S A s.heap s.heap [] := va_S.rf
  have hP : va_P (dC, dI) zc [(h0, .inr (7, [.ref ac, cu, .int dd, .int th])), (ac, .inr (0, [.int 0, ed, .int 0]))] s.heap := hP
  have hl := lv_entry ([.ref h0, .int a1, .int a2]) (n := 3) (Nat.le_of_ble_eq_true rfl)
  rw [lg_entry_eq]
  generalize (lg_sl ([.ref h0, .int a1, .int a2]) ++ List.replicate (3 - (lg_sl ([.ref h0, .int a1, .int a2])).length) Slot.unset).toArray = ls at hl ⊢
  have hl : lv_has ls 3 [(0, .ref h0), (1, .int a1), (2, .int a2)] := hl
  refine lv_aload_n hx hb dX8_least_0 rfl (lv_at hl 0 rfl) ?_
  refine lv_aload_n hx hb dX8_least_1 rfl (lv_at hl 0 rfl) ?_
  refine lv_iload_n hx hb dX8_least_2 rfl (lv_at hl 1 rfl) ?_
  refine vp_callSi (W.runV (As := [.int a1]) (rest := [.ref h0]) ⟨hx, hb, hml, hown, hts⟩ (c_isAccount l dC dI s.heap.size t h0 ac cu dd th a1 ed) (cwV 1 hts (zg_V kw_1432 kw_1434 kw_41 kw_70 kw_1435) rfl rfl rfl (by decide +kernel) ⟨Nat.le_of_ble_eq_true rfl, Nat.le_of_ble_eq_true rfl⟩) ⟨zA_blind, va_recv hK hP (ci := 7) (q0 := 0) rfl rfl, zA_pre hP hD hS hK hQ hA [0, 1] rfl rfl (by decide) [] rfl⟩ rfl rfl hl.1 rfl (lv_room (Nat.le_of_ble_eq_true rfl)) dX8_least_3 ⟨zl_b rfl, zl_b rfl⟩) (fun r hr => ?_)
  subst hr
  refine lv_iconst (v := 1) hx hb dX8_least_6 (by decide) ?_
  have hFc := va_free (wc := [(h0, .inr (7, [.ref ac, cu, .int dd, .int th]))]) hD hS hA [0] rfl
  refine va_calli (va_runV (As := [.int 0, .int 1]) (rest := []) ⟨hx, hb, hml, hown, hts⟩ (c_no0 l dC dI s.heap.size t h0 (.ref ac) cu dd th 1) (cwV 2 hts (zg_V kw_1377 kw_1379 kw_40 kw_70 kw_1380) rfl rfl rfl (by decide +kernel) ⟨Nat.le_of_ble_eq_true rfl, Nat.le_of_ble_eq_true rfl⟩) ⟨zA_blind, va_recv hK hP (ci := 7) (q0 := 0) rfl rfl, zA_pre hP hD hS hK hQ hA [0] rfl rfl (by decide) [] rfl⟩ rfl rfl hl.1 rfl (lv_room (Nat.le_of_ble_eq_true rfl)) dX8_least_7 ⟨zl_b rfl, zl_b rfl⟩) hS (fun q _ h => hFc q h) hFc (fun r_1 u t9 H1 locs ht hvm hw hB hz1 hk1 hS => ?_)
  obtain ⟨hP1, hK1, hD1⟩ := hB
  rw [ht] at hP1
  have hK1 := va_K.moved hvm.symm hK1
  obtain ⟨hP, hD⟩ := va_join (wr := [(ac, .inr (0, [.int 0, ed, .int 0]))]) (w1 := [(h0, .inr (7, [.ref ac, cu, .int dd, .int 1]))]) hP hD [0] [1] rfl rfl (by decide) (by decide) hk1 hFc hP1 hD1
  have hK := (hK.sub (tys' := []) [] rfl).app hK1
  generalize H1 = H at hP hS ⊢
  have hP : va_P (dC, dI) zc [(ac, .inr (0, [.int 0, ed, .int 0])), (h0, .inr (7, [.ref ac, cu, .int dd, .int 1]))] H := hP
  have hD : va_D A [(ac, .inr (0, [.int 0, ed, .int 0])), (h0, .inr (7, [.ref ac, cu, .int dd, .int 1]))] := hD
  have hK : va_K (dC, dI) zc [] s := hK
  obtain rfl : r_1 = 1 := hw
  refine lv_if_ne (tgt := 26) hx hb dX8_least_10 (by decide) (fun c_2 => ?_) (fun c_2 => absurd c_2 (by decide))
  refine lv_lconst (v := 0) hx hb dX8_least_26 (by decide) ?_
  refine lv_goto (tgt := 40) hx hb dX8_least_27 (by decide) ?_
  have hP9 := hP.sub (ws' := [(h0, .inr (7, [.ref ac, cu, .int dd, .int 1])), (ac, .inr (0, [.int 0, ed, .int 0]))]) [1, 0] rfl
  have hD9 := hD.sub (ws' := [(h0, .inr (7, [.ref ac, cu, .int dd, .int 1])), (ac, .inr (0, [.int 0, ed, .int 0]))]) [1, 0] (by decide) rfl
  have hK9 := hK.sub (tys' := []) [] rfl
  exact W.lret hx hb hr (fun t ht hW => ⟨⟨_, (), rfl, trivial, by rw [ht]; exact hP9, va_K.moved hW.alike hK9, hD9⟩, hS.F ht⟩) hS.2.2 dX8_least_40
set_option maxHeartbeats 4000000 in
set_option maxRecDepth 100000 in
/-- interest of the model: no such account -/
theorem m_interest (l : Launch) (dC : Nat → ClassId) (dI : Nat → Nat → Nat) (sz t : Nat) (h0 ac : Nat) (cu : Value) (dd th : Int32) (ed : Value) (a1 a2 : Int32) : Met l yX8_interest ws_X8_interest ({ frames := 3, cells := 0, slots := 0, locals := 55 }) (zA dC dI [(h0, .inr (7, [.ref ac, cu, .int dd, .int th])), (ac, .inr (0, [.int 0, ed, .int 0]))] [] sz t [.ref h0, .int a1, .int a2]) (va_Ql (fun r (_ : Unit) => True) (fun _ t9 => zB dC dI (va_A [(h0, .inr (7, [.ref ac, cu, .int dd, .int th])), (ac, .inr (0, [.int 0, ed, .int 0]))] sz) [(h0, .inr (7, [.ref ac, cu, .int dd, .int 1])), (ac, .inr (0, [.int 0, ed, .int 0]))] [] t9) (va_A [(h0, .inr (7, [.ref ac, cu, .int dd, .int th])), (ac, .inr (0, [.int 0, ed, .int 0]))] sz)) 0 0 (va_A [(h0, .inr (7, [.ref ac, cu, .int dd, .int th])), (ac, .inr (0, [.int 0, ed, .int 0]))] sz) := by
  refine Met.ofW (cc := cX8_interest) (maxL := 3) (ret := (some .long)) (by decide) rfl ?_
  intro p e s m args below meth c s₁ B hml hv
  obtain ⟨rfl, hsz, hP, hK, hD0, hQ⟩ := hv
  have hx := B.exec
  have hb := B.bytes
  have hr := B.returns
  have hts : ∀ w ∈ zG, w.before _ s = true := fun w h => atoms_spec (ws := ws_X8_interest) B.pre w (List.mem_cons_of_mem _ h)
  have hown : s.vm.findClass RX8 = some m.cls := findClass_of_methodNamed B.named
  have hlocks := B.notSynchronized
  subst hsz
  have hD := hD0.self (sz := s.heap.size)
  generalize hAe : va_A [(h0, .inr (7, [.ref ac, cu, .int dd, .int th])), (ac, .inr (0, [.int 0, ed, .int 0]))] s.heap.size = A at hD hQ ⊢
  have hA : ∀ q : Nat, s.heap.size ≤ q → A q := fun q h => by rw [← hAe]; exact Or.inr h
  have hS : va_S A s.heap s.heap [] := va_S.rf
  have hP : va_P (dC, dI) zc [(h0, .inr (7, [.ref ac, cu, .int dd, .int th])), (ac, .inr (0, [.int 0, ed, .int 0]))] s.heap := hP
  have hl := lv_entry ([.ref h0, .int a1, .int a2]) (n := 3) (Nat.le_of_ble_eq_true rfl)
  rw [lg_entry_eq]
  generalize (lg_sl ([.ref h0, .int a1, .int a2]) ++ List.replicate (3 - (lg_sl ([.ref h0, .int a1, .int a2])).length) Slot.unset).toArray = ls at hl ⊢
  have hl : lv_has ls 3 [(0, .ref h0), (1, .int a1), (2, .int a2)] := hl
  refine lv_aload_n hx hb dX8_interest_0 rfl (lv_at hl 0 rfl) ?_
  refine lv_aload_n hx hb dX8_interest_1 rfl (lv_at hl 0 rfl) ?_
  refine lv_iload_n hx hb dX8_interest_2 rfl (lv_at hl 1 rfl) ?_
  refine vp_callSi (W.runV (As := [.int a1]) (rest := [.ref h0]) ⟨hx, hb, hml, hown, hts⟩ (c_isAccount l dC dI s.heap.size t h0 ac cu dd th a1 ed) (cwV 1 hts (zg_V kw_1432 kw_1434 kw_41 kw_70 kw_1435) rfl rfl rfl (by decide +kernel) ⟨Nat.le_of_ble_eq_true rfl, Nat.le_of_ble_eq_true rfl⟩) ⟨zA_blind, va_recv hK hP (ci := 7) (q0 := 0) rfl rfl, zA_pre hP hD hS hK hQ hA [0, 1] rfl rfl (by decide) [] rfl⟩ rfl rfl hl.1 rfl (lv_room (Nat.le_of_ble_eq_true rfl)) dX8_interest_3 ⟨zl_b rfl, zl_b rfl⟩) (fun r hr => ?_)
  subst hr
  refine lv_iconst (v := 1) hx hb dX8_interest_6 (by decide) ?_
  have hFc := va_free (wc := [(h0, .inr (7, [.ref ac, cu, .int dd, .int th]))]) hD hS hA [0] rfl
  refine va_calli (va_runV (As := [.int 0, .int 1]) (rest := []) ⟨hx, hb, hml, hown, hts⟩ (c_no0 l dC dI s.heap.size t h0 (.ref ac) cu dd th 1) (cwV 2 hts (zg_V kw_1377 kw_1379 kw_40 kw_70 kw_1380) rfl rfl rfl (by decide +kernel) ⟨Nat.le_of_ble_eq_true rfl, Nat.le_of_ble_eq_true rfl⟩) ⟨zA_blind, va_recv hK hP (ci := 7) (q0 := 0) rfl rfl, zA_pre hP hD hS hK hQ hA [0] rfl rfl (by decide) [] rfl⟩ rfl rfl hl.1 rfl (lv_room (Nat.le_of_ble_eq_true rfl)) dX8_interest_7 ⟨zl_b rfl, zl_b rfl⟩) hS (fun q _ h => hFc q h) hFc (fun r_1 u t9 H1 locs ht hvm hw hB hz1 hk1 hS => ?_)
  obtain ⟨hP1, hK1, hD1⟩ := hB
  rw [ht] at hP1
  have hK1 := va_K.moved hvm.symm hK1
  obtain ⟨hP, hD⟩ := va_join (wr := [(ac, .inr (0, [.int 0, ed, .int 0]))]) (w1 := [(h0, .inr (7, [.ref ac, cu, .int dd, .int 1]))]) hP hD [0] [1] rfl rfl (by decide) (by decide) hk1 hFc hP1 hD1
  have hK := (hK.sub (tys' := []) [] rfl).app hK1
  generalize H1 = H at hP hS ⊢
  have hP : va_P (dC, dI) zc [(ac, .inr (0, [.int 0, ed, .int 0])), (h0, .inr (7, [.ref ac, cu, .int dd, .int 1]))] H := hP
  have hD : va_D A [(ac, .inr (0, [.int 0, ed, .int 0])), (h0, .inr (7, [.ref ac, cu, .int dd, .int 1]))] := hD
  have hK : va_K (dC, dI) zc [] s := hK
  obtain rfl : r_1 = 1 := hw
  refine lv_if_ne (tgt := 26) hx hb dX8_interest_10 (by decide) (fun c_2 => ?_) (fun c_2 => absurd c_2 (by decide))
  refine lv_lconst (v := 0) hx hb dX8_interest_26 (by decide) ?_
  refine lv_goto (tgt := 40) hx hb dX8_interest_27 (by decide) ?_
  have hP9 := hP.sub (ws' := [(h0, .inr (7, [.ref ac, cu, .int dd, .int 1])), (ac, .inr (0, [.int 0, ed, .int 0]))]) [1, 0] rfl
  have hD9 := hD.sub (ws' := [(h0, .inr (7, [.ref ac, cu, .int dd, .int 1])), (ac, .inr (0, [.int 0, ed, .int 0]))]) [1, 0] (by decide) rfl
  have hK9 := hK.sub (tys' := []) [] rfl
  exact W.lret hx hb hr (fun t ht hW => ⟨⟨_, (), rfl, trivial, by rw [ht]; exact hP9, va_K.moved hW.alike hK9, hD9⟩, hS.F ht⟩) hS.2.2 dX8_interest_40
set_option maxHeartbeats 4000000 in
set_option maxRecDepth 100000 in
/-- hadGrace of the model: no such account -/
theorem m_hadGrace (l : Launch) (dC : Nat → ClassId) (dI : Nat → Nat → Nat) (sz t : Nat) (h0 ac : Nat) (cu : Value) (dd th : Int32) (ed : Value) (a1 a2 : Int32) : Met l yX8_hadGrace ws_X8_hadGrace ({ frames := 3, cells := 0, slots := 0, locals := 55 }) (zA dC dI [(h0, .inr (7, [.ref ac, cu, .int dd, .int th])), (ac, .inr (0, [.int 0, ed, .int 0]))] [] sz t [.ref h0, .int a1, .int a2]) (va_Qi (fun r (_ : Unit) => True) (fun _ t9 => zB dC dI (va_A [(h0, .inr (7, [.ref ac, cu, .int dd, .int th])), (ac, .inr (0, [.int 0, ed, .int 0]))] sz) [(h0, .inr (7, [.ref ac, cu, .int dd, .int 1])), (ac, .inr (0, [.int 0, ed, .int 0]))] [] t9) (va_A [(h0, .inr (7, [.ref ac, cu, .int dd, .int th])), (ac, .inr (0, [.int 0, ed, .int 0]))] sz)) 0 0 (va_A [(h0, .inr (7, [.ref ac, cu, .int dd, .int th])), (ac, .inr (0, [.int 0, ed, .int 0]))] sz) := by
  refine Met.ofW (cc := cX8_hadGrace) (maxL := 3) (ret := (some .boolean)) (by decide) rfl ?_
  intro p e s m args below meth c s₁ B hml hv
  obtain ⟨rfl, hsz, hP, hK, hD0, hQ⟩ := hv
  have hx := B.exec
  have hb := B.bytes
  have hr := B.returns
  have hts : ∀ w ∈ zG, w.before _ s = true := fun w h => atoms_spec (ws := ws_X8_hadGrace) B.pre w (List.mem_cons_of_mem _ h)
  have hown : s.vm.findClass RX8 = some m.cls := findClass_of_methodNamed B.named
  have hlocks := B.notSynchronized
  subst hsz
  have hD := hD0.self (sz := s.heap.size)
  generalize hAe : va_A [(h0, .inr (7, [.ref ac, cu, .int dd, .int th])), (ac, .inr (0, [.int 0, ed, .int 0]))] s.heap.size = A at hD hQ ⊢
  have hA : ∀ q : Nat, s.heap.size ≤ q → A q := fun q h => by rw [← hAe]; exact Or.inr h
  have hS : va_S A s.heap s.heap [] := va_S.rf
  have hP : va_P (dC, dI) zc [(h0, .inr (7, [.ref ac, cu, .int dd, .int th])), (ac, .inr (0, [.int 0, ed, .int 0]))] s.heap := hP
  have hl := lv_entry ([.ref h0, .int a1, .int a2]) (n := 3) (Nat.le_of_ble_eq_true rfl)
  rw [lg_entry_eq]
  generalize (lg_sl ([.ref h0, .int a1, .int a2]) ++ List.replicate (3 - (lg_sl ([.ref h0, .int a1, .int a2])).length) Slot.unset).toArray = ls at hl ⊢
  have hl : lv_has ls 3 [(0, .ref h0), (1, .int a1), (2, .int a2)] := hl
  refine lv_aload_n hx hb dX8_hadGrace_0 rfl (lv_at hl 0 rfl) ?_
  refine lv_aload_n hx hb dX8_hadGrace_1 rfl (lv_at hl 0 rfl) ?_
  refine lv_iload_n hx hb dX8_hadGrace_2 rfl (lv_at hl 1 rfl) ?_
  refine vp_callSi (W.runV (As := [.int a1]) (rest := [.ref h0]) ⟨hx, hb, hml, hown, hts⟩ (c_isAccount l dC dI s.heap.size t h0 ac cu dd th a1 ed) (cwV 1 hts (zg_V kw_1432 kw_1434 kw_41 kw_70 kw_1435) rfl rfl rfl (by decide +kernel) ⟨Nat.le_of_ble_eq_true rfl, Nat.le_of_ble_eq_true rfl⟩) ⟨zA_blind, va_recv hK hP (ci := 7) (q0 := 0) rfl rfl, zA_pre hP hD hS hK hQ hA [0, 1] rfl rfl (by decide) [] rfl⟩ rfl rfl hl.1 rfl (lv_room (Nat.le_of_ble_eq_true rfl)) dX8_hadGrace_3 ⟨zl_b rfl, zl_b rfl⟩) (fun r hr => ?_)
  subst hr
  refine lv_iconst (v := 1) hx hb dX8_hadGrace_6 (by decide) ?_
  have hFc := va_free (wc := [(h0, .inr (7, [.ref ac, cu, .int dd, .int th]))]) hD hS hA [0] rfl
  refine va_calli (va_runV (As := [.int 0, .int 1]) (rest := []) ⟨hx, hb, hml, hown, hts⟩ (c_no0 l dC dI s.heap.size t h0 (.ref ac) cu dd th 1) (cwV 2 hts (zg_V kw_1377 kw_1379 kw_40 kw_70 kw_1380) rfl rfl rfl (by decide +kernel) ⟨Nat.le_of_ble_eq_true rfl, Nat.le_of_ble_eq_true rfl⟩) ⟨zA_blind, va_recv hK hP (ci := 7) (q0 := 0) rfl rfl, zA_pre hP hD hS hK hQ hA [0] rfl rfl (by decide) [] rfl⟩ rfl rfl hl.1 rfl (lv_room (Nat.le_of_ble_eq_true rfl)) dX8_hadGrace_7 ⟨zl_b rfl, zl_b rfl⟩) hS (fun q _ h => hFc q h) hFc (fun r_1 u t9 H1 locs ht hvm hw hB hz1 hk1 hS => ?_)
  obtain ⟨hP1, hK1, hD1⟩ := hB
  rw [ht] at hP1
  have hK1 := va_K.moved hvm.symm hK1
  obtain ⟨hP, hD⟩ := va_join (wr := [(ac, .inr (0, [.int 0, ed, .int 0]))]) (w1 := [(h0, .inr (7, [.ref ac, cu, .int dd, .int 1]))]) hP hD [0] [1] rfl rfl (by decide) (by decide) hk1 hFc hP1 hD1
  have hK := (hK.sub (tys' := []) [] rfl).app hK1
  generalize H1 = H at hP hS ⊢
  have hP : va_P (dC, dI) zc [(ac, .inr (0, [.int 0, ed, .int 0])), (h0, .inr (7, [.ref ac, cu, .int dd, .int 1]))] H := hP
  have hD : va_D A [(ac, .inr (0, [.int 0, ed, .int 0])), (h0, .inr (7, [.ref ac, cu, .int dd, .int 1]))] := hD
  have hK : va_K (dC, dI) zc [] s := hK
  obtain rfl : r_1 = 1 := hw
  refine lv_if_ne (tgt := 43) hx hb dX8_hadGrace_10 (by decide) (fun c_2 => ?_) (fun c_2 => absurd c_2 (by decide))
  refine lv_iconst (v := 0) hx hb dX8_hadGrace_43 (by decide) ?_
  have hP9 := hP.sub (ws' := [(h0, .inr (7, [.ref ac, cu, .int dd, .int 1])), (ac, .inr (0, [.int 0, ed, .int 0]))]) [1, 0] rfl
  have hD9 := hD.sub (ws' := [(h0, .inr (7, [.ref ac, cu, .int dd, .int 1])), (ac, .inr (0, [.int 0, ed, .int 0]))]) [1, 0] (by decide) rfl
  have hK9 := hK.sub (tys' := []) [] rfl
  exact W.zret (ty := .boolean) hx hb hr rfl (fun t ht hW => ⟨⟨_, (), rfl, trivial, by rw [ht]; exact hP9, va_K.moved hW.alike hK9, hD9⟩, hS.F ht⟩) hS.2.2 dX8_hadGrace_44
set_option maxHeartbeats 4000000 in
set_option maxRecDepth 100000 in
/-- paid of the model: no such account -/
theorem m_paid (l : Launch) (dC : Nat → ClassId) (dI : Nat → Nat → Nat) (sz t : Nat) (h0 ac : Nat) (cu : Value) (dd th : Int32) (ed : Value) (a1 a2 : Int32) : Met l yX8_paid ws_X8_paid ({ frames := 3, cells := 0, slots := 0, locals := 55 }) (zA dC dI [(h0, .inr (7, [.ref ac, cu, .int dd, .int th])), (ac, .inr (0, [.int 0, ed, .int 0]))] [] sz t [.ref h0, .int a1, .int a2]) (va_Qi (fun r (_ : Unit) => True) (fun _ t9 => zB dC dI (va_A [(h0, .inr (7, [.ref ac, cu, .int dd, .int th])), (ac, .inr (0, [.int 0, ed, .int 0]))] sz) [(h0, .inr (7, [.ref ac, cu, .int dd, .int 1])), (ac, .inr (0, [.int 0, ed, .int 0]))] [] t9) (va_A [(h0, .inr (7, [.ref ac, cu, .int dd, .int th])), (ac, .inr (0, [.int 0, ed, .int 0]))] sz)) 0 0 (va_A [(h0, .inr (7, [.ref ac, cu, .int dd, .int th])), (ac, .inr (0, [.int 0, ed, .int 0]))] sz) := by
  refine Met.ofW (cc := cX8_paid) (maxL := 4) (ret := (some .char)) (by decide) rfl ?_
  intro p e s m args below meth c s₁ B hml hv
  obtain ⟨rfl, hsz, hP, hK, hD0, hQ⟩ := hv
  have hx := B.exec
  have hb := B.bytes
  have hr := B.returns
  have hts : ∀ w ∈ zG, w.before _ s = true := fun w h => atoms_spec (ws := ws_X8_paid) B.pre w (List.mem_cons_of_mem _ h)
  have hown : s.vm.findClass RX8 = some m.cls := findClass_of_methodNamed B.named
  have hlocks := B.notSynchronized
  subst hsz
  have hD := hD0.self (sz := s.heap.size)
  generalize hAe : va_A [(h0, .inr (7, [.ref ac, cu, .int dd, .int th])), (ac, .inr (0, [.int 0, ed, .int 0]))] s.heap.size = A at hD hQ ⊢
  have hA : ∀ q : Nat, s.heap.size ≤ q → A q := fun q h => by rw [← hAe]; exact Or.inr h
  have hS : va_S A s.heap s.heap [] := va_S.rf
  have hP : va_P (dC, dI) zc [(h0, .inr (7, [.ref ac, cu, .int dd, .int th])), (ac, .inr (0, [.int 0, ed, .int 0]))] s.heap := hP
  have hl := lv_entry ([.ref h0, .int a1, .int a2]) (n := 4) (Nat.le_of_ble_eq_true rfl)
  rw [lg_entry_eq]
  generalize (lg_sl ([.ref h0, .int a1, .int a2]) ++ List.replicate (4 - (lg_sl ([.ref h0, .int a1, .int a2])).length) Slot.unset).toArray = ls at hl ⊢
  have hl : lv_has ls 4 [(0, .ref h0), (1, .int a1), (2, .int a2)] := hl
  refine lv_aload_n hx hb dX8_paid_0 rfl (lv_at hl 0 rfl) ?_
  refine lv_aload_n hx hb dX8_paid_1 rfl (lv_at hl 0 rfl) ?_
  refine lv_iload_n hx hb dX8_paid_2 rfl (lv_at hl 1 rfl) ?_
  refine vp_callSi (W.runV (As := [.int a1]) (rest := [.ref h0]) ⟨hx, hb, hml, hown, hts⟩ (c_isAccount l dC dI s.heap.size t h0 ac cu dd th a1 ed) (cwV 1 hts (zg_V kw_1432 kw_1434 kw_41 kw_70 kw_1435) rfl rfl rfl (by decide +kernel) ⟨Nat.le_of_ble_eq_true rfl, Nat.le_of_ble_eq_true rfl⟩) ⟨zA_blind, va_recv hK hP (ci := 7) (q0 := 0) rfl rfl, zA_pre hP hD hS hK hQ hA [0, 1] rfl rfl (by decide) [] rfl⟩ rfl rfl hl.1 rfl (lv_room (Nat.le_of_ble_eq_true rfl)) dX8_paid_3 ⟨zl_b rfl, zl_b rfl⟩) (fun r hr => ?_)
  subst hr
  refine lv_iconst (v := 1) hx hb dX8_paid_6 (by decide) ?_
  have hFc := va_free (wc := [(h0, .inr (7, [.ref ac, cu, .int dd, .int th]))]) hD hS hA [0] rfl
  refine va_calli (va_runV (As := [.int 0, .int 1]) (rest := []) ⟨hx, hb, hml, hown, hts⟩ (c_no0 l dC dI s.heap.size t h0 (.ref ac) cu dd th 1) (cwV 2 hts (zg_V kw_1377 kw_1379 kw_40 kw_70 kw_1380) rfl rfl rfl (by decide +kernel) ⟨Nat.le_of_ble_eq_true rfl, Nat.le_of_ble_eq_true rfl⟩) ⟨zA_blind, va_recv hK hP (ci := 7) (q0 := 0) rfl rfl, zA_pre hP hD hS hK hQ hA [0] rfl rfl (by decide) [] rfl⟩ rfl rfl hl.1 rfl (lv_room (Nat.le_of_ble_eq_true rfl)) dX8_paid_7 ⟨zl_b rfl, zl_b rfl⟩) hS (fun q _ h => hFc q h) hFc (fun r_1 u t9 H1 locs ht hvm hw hB hz1 hk1 hS => ?_)
  obtain ⟨hP1, hK1, hD1⟩ := hB
  rw [ht] at hP1
  have hK1 := va_K.moved hvm.symm hK1
  obtain ⟨hP, hD⟩ := va_join (wr := [(ac, .inr (0, [.int 0, ed, .int 0]))]) (w1 := [(h0, .inr (7, [.ref ac, cu, .int dd, .int 1]))]) hP hD [0] [1] rfl rfl (by decide) (by decide) hk1 hFc hP1 hD1
  have hK := (hK.sub (tys' := []) [] rfl).app hK1
  generalize H1 = H at hP hS ⊢
  have hP : va_P (dC, dI) zc [(ac, .inr (0, [.int 0, ed, .int 0])), (h0, .inr (7, [.ref ac, cu, .int dd, .int 1]))] H := hP
  have hD : va_D A [(ac, .inr (0, [.int 0, ed, .int 0])), (h0, .inr (7, [.ref ac, cu, .int dd, .int 1]))] := hD
  have hK : va_K (dC, dI) zc [] s := hK
  obtain rfl : r_1 = 1 := hw
  refine lv_if_ne (tgt := 26) hx hb dX8_paid_10 (by decide) (fun c_2 => ?_) (fun c_2 => absurd c_2 (by decide))
  refine lv_bipush (v := 45) hx hb dX8_paid_26 (by decide) ?_
  have hP9 := hP.sub (ws' := [(h0, .inr (7, [.ref ac, cu, .int dd, .int 1])), (ac, .inr (0, [.int 0, ed, .int 0]))]) [1, 0] rfl
  have hD9 := hD.sub (ws' := [(h0, .inr (7, [.ref ac, cu, .int dd, .int 1])), (ac, .inr (0, [.int 0, ed, .int 0]))]) [1, 0] (by decide) rfl
  have hK9 := hK.sub (tys' := []) [] rfl
  exact W.zret (ty := .char) hx hb hr rfl (fun t ht hW => ⟨⟨_, (), rfl, trivial, by rw [ht]; exact hP9, va_K.moved hW.alike hK9, hD9⟩, hS.F ht⟩) hS.2.2 dX8_paid_28
set_option maxHeartbeats 4000000 in
set_option maxRecDepth 100000 in
/-- missing of the model: no such account -/
theorem m_missing (l : Launch) (dC : Nat → ClassId) (dI : Nat → Nat → Nat) (sz t : Nat) (h0 ac : Nat) (cu : Value) (dd th : Int32) (ed : Value) (a1 : Int32) : Met l yX8_missing ws_X8_missing ({ frames := 3, cells := 0, slots := 0, locals := 55 }) (zA dC dI [(h0, .inr (7, [.ref ac, cu, .int dd, .int th])), (ac, .inr (0, [.int 0, ed, .int 0]))] [] sz t [.ref h0, .int a1]) (va_Ql (fun r (_ : Unit) => True) (fun _ t9 => zB dC dI (va_A [(h0, .inr (7, [.ref ac, cu, .int dd, .int th])), (ac, .inr (0, [.int 0, ed, .int 0]))] sz) [(h0, .inr (7, [.ref ac, cu, .int dd, .int 1])), (ac, .inr (0, [.int 0, ed, .int 0]))] [] t9) (va_A [(h0, .inr (7, [.ref ac, cu, .int dd, .int th])), (ac, .inr (0, [.int 0, ed, .int 0]))] sz)) 0 0 (va_A [(h0, .inr (7, [.ref ac, cu, .int dd, .int th])), (ac, .inr (0, [.int 0, ed, .int 0]))] sz) := by
  refine Met.ofW (cc := cX8_missing) (maxL := 2) (ret := (some .long)) (by decide) rfl ?_
  intro p e s m args below meth c s₁ B hml hv
  obtain ⟨rfl, hsz, hP, hK, hD0, hQ⟩ := hv
  have hx := B.exec
  have hb := B.bytes
  have hr := B.returns
  have hts : ∀ w ∈ zG, w.before _ s = true := fun w h => atoms_spec (ws := ws_X8_missing) B.pre w (List.mem_cons_of_mem _ h)
  have hown : s.vm.findClass RX8 = some m.cls := findClass_of_methodNamed B.named
  have hlocks := B.notSynchronized
  subst hsz
  have hD := hD0.self (sz := s.heap.size)
  generalize hAe : va_A [(h0, .inr (7, [.ref ac, cu, .int dd, .int th])), (ac, .inr (0, [.int 0, ed, .int 0]))] s.heap.size = A at hD hQ ⊢
  have hA : ∀ q : Nat, s.heap.size ≤ q → A q := fun q h => by rw [← hAe]; exact Or.inr h
  have hS : va_S A s.heap s.heap [] := va_S.rf
  have hP : va_P (dC, dI) zc [(h0, .inr (7, [.ref ac, cu, .int dd, .int th])), (ac, .inr (0, [.int 0, ed, .int 0]))] s.heap := hP
  have hl := lv_entry ([.ref h0, .int a1]) (n := 2) (Nat.le_of_ble_eq_true rfl)
  rw [lg_entry_eq]
  generalize (lg_sl ([.ref h0, .int a1]) ++ List.replicate (2 - (lg_sl ([.ref h0, .int a1])).length) Slot.unset).toArray = ls at hl ⊢
  have hl : lv_has ls 2 [(0, .ref h0), (1, .int a1)] := hl
  refine lv_aload_n hx hb dX8_missing_0 rfl (lv_at hl 0 rfl) ?_
  refine lv_aload_n hx hb dX8_missing_1 rfl (lv_at hl 0 rfl) ?_
  refine lv_iload_n hx hb dX8_missing_2 rfl (lv_at hl 1 rfl) ?_
  refine vp_callSi (W.runV (As := [.int a1]) (rest := [.ref h0]) ⟨hx, hb, hml, hown, hts⟩ (c_isAccount l dC dI s.heap.size t h0 ac cu dd th a1 ed) (cwV 1 hts (zg_V kw_1432 kw_1434 kw_41 kw_70 kw_1435) rfl rfl rfl (by decide +kernel) ⟨Nat.le_of_ble_eq_true rfl, Nat.le_of_ble_eq_true rfl⟩) ⟨zA_blind, va_recv hK hP (ci := 7) (q0 := 0) rfl rfl, zA_pre hP hD hS hK hQ hA [0, 1] rfl rfl (by decide) [] rfl⟩ rfl rfl hl.1 rfl (lv_room (Nat.le_of_ble_eq_true rfl)) dX8_missing_3 ⟨zl_b rfl, zl_b rfl⟩) (fun r hr => ?_)
  subst hr
  refine lv_iconst (v := 1) hx hb dX8_missing_6 (by decide) ?_
  have hFc := va_free (wc := [(h0, .inr (7, [.ref ac, cu, .int dd, .int th]))]) hD hS hA [0] rfl
  refine va_calli (va_runV (As := [.int 0, .int 1]) (rest := []) ⟨hx, hb, hml, hown, hts⟩ (c_no0 l dC dI s.heap.size t h0 (.ref ac) cu dd th 1) (cwV 2 hts (zg_V kw_1377 kw_1379 kw_40 kw_70 kw_1380) rfl rfl rfl (by decide +kernel) ⟨Nat.le_of_ble_eq_true rfl, Nat.le_of_ble_eq_true rfl⟩) ⟨zA_blind, va_recv hK hP (ci := 7) (q0 := 0) rfl rfl, zA_pre hP hD hS hK hQ hA [0] rfl rfl (by decide) [] rfl⟩ rfl rfl hl.1 rfl (lv_room (Nat.le_of_ble_eq_true rfl)) dX8_missing_7 ⟨zl_b rfl, zl_b rfl⟩) hS (fun q _ h => hFc q h) hFc (fun r_1 u t9 H1 locs ht hvm hw hB hz1 hk1 hS => ?_)
  obtain ⟨hP1, hK1, hD1⟩ := hB
  rw [ht] at hP1
  have hK1 := va_K.moved hvm.symm hK1
  obtain ⟨hP, hD⟩ := va_join (wr := [(ac, .inr (0, [.int 0, ed, .int 0]))]) (w1 := [(h0, .inr (7, [.ref ac, cu, .int dd, .int 1]))]) hP hD [0] [1] rfl rfl (by decide) (by decide) hk1 hFc hP1 hD1
  have hK := (hK.sub (tys' := []) [] rfl).app hK1
  generalize H1 = H at hP hS ⊢
  have hP : va_P (dC, dI) zc [(ac, .inr (0, [.int 0, ed, .int 0])), (h0, .inr (7, [.ref ac, cu, .int dd, .int 1]))] H := hP
  have hD : va_D A [(ac, .inr (0, [.int 0, ed, .int 0])), (h0, .inr (7, [.ref ac, cu, .int dd, .int 1]))] := hD
  have hK : va_K (dC, dI) zc [] s := hK
  obtain rfl : r_1 = 1 := hw
  refine lv_if_eq (tgt := 17) hx hb dX8_missing_10 (by decide) (fun c_2 => absurd c_2 (by decide)) (fun c_2 => ?_)
  refine lv_lconst (v := 0) hx hb dX8_missing_13 (by decide) ?_
  refine lv_goto (tgt := 25) hx hb dX8_missing_14 (by decide) ?_
  have hP9 := hP.sub (ws' := [(h0, .inr (7, [.ref ac, cu, .int dd, .int 1])), (ac, .inr (0, [.int 0, ed, .int 0]))]) [1, 0] rfl
  have hD9 := hD.sub (ws' := [(h0, .inr (7, [.ref ac, cu, .int dd, .int 1])), (ac, .inr (0, [.int 0, ed, .int 0]))]) [1, 0] (by decide) rfl
  have hK9 := hK.sub (tys' := []) [] rfl
  exact W.lret hx hb hr (fun t ht hW => ⟨⟨_, (), rfl, trivial, by rw [ht]; exact hP9, va_K.moved hW.alike hK9, hD9⟩, hS.F ht⟩) hS.2.2 dX8_missing_25
set_option maxHeartbeats 4000000 in
set_option maxRecDepth 100000 in
/-- missed of the model: no such account -/
theorem m_missed (l : Launch) (dC : Nat → ClassId) (dI : Nat → Nat → Nat) (sz t : Nat) (h0 ac : Nat) (cu : Value) (dd th : Int32) (ed : Value) (a1 : Int32) : Met l yX8_missed ws_X8_missed ({ frames := 3, cells := 0, slots := 0, locals := 55 }) (zA dC dI [(h0, .inr (7, [.ref ac, cu, .int dd, .int th])), (ac, .inr (0, [.int 0, ed, .int 0]))] [] sz t [.ref h0, .int a1]) (va_Qi (fun r (_ : Unit) => True) (fun _ t9 => zB dC dI (va_A [(h0, .inr (7, [.ref ac, cu, .int dd, .int th])), (ac, .inr (0, [.int 0, ed, .int 0]))] sz) [(h0, .inr (7, [.ref ac, cu, .int dd, .int 1])), (ac, .inr (0, [.int 0, ed, .int 0]))] [] t9) (va_A [(h0, .inr (7, [.ref ac, cu, .int dd, .int th])), (ac, .inr (0, [.int 0, ed, .int 0]))] sz)) 0 0 (va_A [(h0, .inr (7, [.ref ac, cu, .int dd, .int th])), (ac, .inr (0, [.int 0, ed, .int 0]))] sz) := by
  refine Met.ofW (cc := cX8_missed) (maxL := 2) (ret := (some .int)) (by decide) rfl ?_
  intro p e s m args below meth c s₁ B hml hv
  obtain ⟨rfl, hsz, hP, hK, hD0, hQ⟩ := hv
  have hx := B.exec
  have hb := B.bytes
  have hr := B.returns
  have hts : ∀ w ∈ zG, w.before _ s = true := fun w h => atoms_spec (ws := ws_X8_missed) B.pre w (List.mem_cons_of_mem _ h)
  have hown : s.vm.findClass RX8 = some m.cls := findClass_of_methodNamed B.named
  have hlocks := B.notSynchronized
  subst hsz
  have hD := hD0.self (sz := s.heap.size)
  generalize hAe : va_A [(h0, .inr (7, [.ref ac, cu, .int dd, .int th])), (ac, .inr (0, [.int 0, ed, .int 0]))] s.heap.size = A at hD hQ ⊢
  have hA : ∀ q : Nat, s.heap.size ≤ q → A q := fun q h => by rw [← hAe]; exact Or.inr h
  have hS : va_S A s.heap s.heap [] := va_S.rf
  have hP : va_P (dC, dI) zc [(h0, .inr (7, [.ref ac, cu, .int dd, .int th])), (ac, .inr (0, [.int 0, ed, .int 0]))] s.heap := hP
  have hl := lv_entry ([.ref h0, .int a1]) (n := 2) (Nat.le_of_ble_eq_true rfl)
  rw [lg_entry_eq]
  generalize (lg_sl ([.ref h0, .int a1]) ++ List.replicate (2 - (lg_sl ([.ref h0, .int a1])).length) Slot.unset).toArray = ls at hl ⊢
  have hl : lv_has ls 2 [(0, .ref h0), (1, .int a1)] := hl
  refine lv_aload_n hx hb dX8_missed_0 rfl (lv_at hl 0 rfl) ?_
  refine lv_aload_n hx hb dX8_missed_1 rfl (lv_at hl 0 rfl) ?_
  refine lv_iload_n hx hb dX8_missed_2 rfl (lv_at hl 1 rfl) ?_
  refine vp_callSi (W.runV (As := [.int a1]) (rest := [.ref h0]) ⟨hx, hb, hml, hown, hts⟩ (c_isAccount l dC dI s.heap.size t h0 ac cu dd th a1 ed) (cwV 1 hts (zg_V kw_1432 kw_1434 kw_41 kw_70 kw_1435) rfl rfl rfl (by decide +kernel) ⟨Nat.le_of_ble_eq_true rfl, Nat.le_of_ble_eq_true rfl⟩) ⟨zA_blind, va_recv hK hP (ci := 7) (q0 := 0) rfl rfl, zA_pre hP hD hS hK hQ hA [0, 1] rfl rfl (by decide) [] rfl⟩ rfl rfl hl.1 rfl (lv_room (Nat.le_of_ble_eq_true rfl)) dX8_missed_3 ⟨zl_b rfl, zl_b rfl⟩) (fun r hr => ?_)
  subst hr
  refine lv_iconst (v := 1) hx hb dX8_missed_6 (by decide) ?_
  have hFc := va_free (wc := [(h0, .inr (7, [.ref ac, cu, .int dd, .int th]))]) hD hS hA [0] rfl
  refine va_calli (va_runV (As := [.int 0, .int 1]) (rest := []) ⟨hx, hb, hml, hown, hts⟩ (c_no0 l dC dI s.heap.size t h0 (.ref ac) cu dd th 1) (cwV 2 hts (zg_V kw_1377 kw_1379 kw_40 kw_70 kw_1380) rfl rfl rfl (by decide +kernel) ⟨Nat.le_of_ble_eq_true rfl, Nat.le_of_ble_eq_true rfl⟩) ⟨zA_blind, va_recv hK hP (ci := 7) (q0 := 0) rfl rfl, zA_pre hP hD hS hK hQ hA [0] rfl rfl (by decide) [] rfl⟩ rfl rfl hl.1 rfl (lv_room (Nat.le_of_ble_eq_true rfl)) dX8_missed_7 ⟨zl_b rfl, zl_b rfl⟩) hS (fun q _ h => hFc q h) hFc (fun r_1 u t9 H1 locs ht hvm hw hB hz1 hk1 hS => ?_)
  obtain ⟨hP1, hK1, hD1⟩ := hB
  rw [ht] at hP1
  have hK1 := va_K.moved hvm.symm hK1
  obtain ⟨hP, hD⟩ := va_join (wr := [(ac, .inr (0, [.int 0, ed, .int 0]))]) (w1 := [(h0, .inr (7, [.ref ac, cu, .int dd, .int 1]))]) hP hD [0] [1] rfl rfl (by decide) (by decide) hk1 hFc hP1 hD1
  have hK := (hK.sub (tys' := []) [] rfl).app hK1
  generalize H1 = H at hP hS ⊢
  have hP : va_P (dC, dI) zc [(ac, .inr (0, [.int 0, ed, .int 0])), (h0, .inr (7, [.ref ac, cu, .int dd, .int 1]))] H := hP
  have hD : va_D A [(ac, .inr (0, [.int 0, ed, .int 0])), (h0, .inr (7, [.ref ac, cu, .int dd, .int 1]))] := hD
  have hK : va_K (dC, dI) zc [] s := hK
  obtain rfl : r_1 = 1 := hw
  refine lv_if_eq (tgt := 17) hx hb dX8_missed_10 (by decide) (fun c_2 => absurd c_2 (by decide)) (fun c_2 => ?_)
  refine lv_iconst (v := 0) hx hb dX8_missed_13 (by decide) ?_
  refine lv_goto (tgt := 25) hx hb dX8_missed_14 (by decide) ?_
  have hP9 := hP.sub (ws' := [(h0, .inr (7, [.ref ac, cu, .int dd, .int 1])), (ac, .inr (0, [.int 0, ed, .int 0]))]) [1, 0] rfl
  have hD9 := hD.sub (ws' := [(h0, .inr (7, [.ref ac, cu, .int dd, .int 1])), (ac, .inr (0, [.int 0, ed, .int 0]))]) [1, 0] (by decide) rfl
  have hK9 := hK.sub (tys' := []) [] rfl
  exact W.iret hx hb hr (fun t ht hW => ⟨⟨_, (), rfl, trivial, by rw [ht]; exact hP9, va_K.moved hW.alike hK9, hD9⟩, hS.F ht⟩) hS.2.2 dX8_missed_25
set_option maxHeartbeats 4000000 in
set_option maxRecDepth 100000 in
/-- isOff of the model: no such account -/
theorem m_isOff (l : Launch) (dC : Nat → ClassId) (dI : Nat → Nat → Nat) (sz t : Nat) (h0 ac : Nat) (cu : Value) (dd th : Int32) (ed : Value) (a1 : Int32) : Met l yX8_isOff ws_X8_isOff ({ frames := 3, cells := 0, slots := 0, locals := 55 }) (zA dC dI [(h0, .inr (7, [.ref ac, cu, .int dd, .int th])), (ac, .inr (0, [.int 0, ed, .int 0]))] [] sz t [.ref h0, .int a1]) (va_Qi (fun r (_ : Unit) => True) (fun _ t9 => zB dC dI (va_A [(h0, .inr (7, [.ref ac, cu, .int dd, .int th])), (ac, .inr (0, [.int 0, ed, .int 0]))] sz) [(h0, .inr (7, [.ref ac, cu, .int dd, .int 1])), (ac, .inr (0, [.int 0, ed, .int 0]))] [] t9) (va_A [(h0, .inr (7, [.ref ac, cu, .int dd, .int th])), (ac, .inr (0, [.int 0, ed, .int 0]))] sz)) 0 0 (va_A [(h0, .inr (7, [.ref ac, cu, .int dd, .int th])), (ac, .inr (0, [.int 0, ed, .int 0]))] sz) := by
  refine Met.ofW (cc := cX8_isOff) (maxL := 2) (ret := (some .boolean)) (by decide) rfl ?_
  intro p e s m args below meth c s₁ B hml hv
  obtain ⟨rfl, hsz, hP, hK, hD0, hQ⟩ := hv
  have hx := B.exec
  have hb := B.bytes
  have hr := B.returns
  have hts : ∀ w ∈ zG, w.before _ s = true := fun w h => atoms_spec (ws := ws_X8_isOff) B.pre w (List.mem_cons_of_mem _ h)
  have hown : s.vm.findClass RX8 = some m.cls := findClass_of_methodNamed B.named
  have hlocks := B.notSynchronized
  subst hsz
  have hD := hD0.self (sz := s.heap.size)
  generalize hAe : va_A [(h0, .inr (7, [.ref ac, cu, .int dd, .int th])), (ac, .inr (0, [.int 0, ed, .int 0]))] s.heap.size = A at hD hQ ⊢
  have hA : ∀ q : Nat, s.heap.size ≤ q → A q := fun q h => by rw [← hAe]; exact Or.inr h
  have hS : va_S A s.heap s.heap [] := va_S.rf
  have hP : va_P (dC, dI) zc [(h0, .inr (7, [.ref ac, cu, .int dd, .int th])), (ac, .inr (0, [.int 0, ed, .int 0]))] s.heap := hP
  have hl := lv_entry ([.ref h0, .int a1]) (n := 2) (Nat.le_of_ble_eq_true rfl)
  rw [lg_entry_eq]
  generalize (lg_sl ([.ref h0, .int a1]) ++ List.replicate (2 - (lg_sl ([.ref h0, .int a1])).length) Slot.unset).toArray = ls at hl ⊢
  have hl : lv_has ls 2 [(0, .ref h0), (1, .int a1)] := hl
  refine lv_aload_n hx hb dX8_isOff_0 rfl (lv_at hl 0 rfl) ?_
  refine lv_aload_n hx hb dX8_isOff_1 rfl (lv_at hl 0 rfl) ?_
  refine lv_iload_n hx hb dX8_isOff_2 rfl (lv_at hl 1 rfl) ?_
  refine vp_callSi (W.runV (As := [.int a1]) (rest := [.ref h0]) ⟨hx, hb, hml, hown, hts⟩ (c_isAccount l dC dI s.heap.size t h0 ac cu dd th a1 ed) (cwV 1 hts (zg_V kw_1432 kw_1434 kw_41 kw_70 kw_1435) rfl rfl rfl (by decide +kernel) ⟨Nat.le_of_ble_eq_true rfl, Nat.le_of_ble_eq_true rfl⟩) ⟨zA_blind, va_recv hK hP (ci := 7) (q0 := 0) rfl rfl, zA_pre hP hD hS hK hQ hA [0, 1] rfl rfl (by decide) [] rfl⟩ rfl rfl hl.1 rfl (lv_room (Nat.le_of_ble_eq_true rfl)) dX8_isOff_3 ⟨zl_b rfl, zl_b rfl⟩) (fun r hr => ?_)
  subst hr
  refine lv_iconst (v := 1) hx hb dX8_isOff_6 (by decide) ?_
  have hFc := va_free (wc := [(h0, .inr (7, [.ref ac, cu, .int dd, .int th]))]) hD hS hA [0] rfl
  refine va_calli (va_runV (As := [.int 0, .int 1]) (rest := []) ⟨hx, hb, hml, hown, hts⟩ (c_no0 l dC dI s.heap.size t h0 (.ref ac) cu dd th 1) (cwV 2 hts (zg_V kw_1377 kw_1379 kw_40 kw_70 kw_1380) rfl rfl rfl (by decide +kernel) ⟨Nat.le_of_ble_eq_true rfl, Nat.le_of_ble_eq_true rfl⟩) ⟨zA_blind, va_recv hK hP (ci := 7) (q0 := 0) rfl rfl, zA_pre hP hD hS hK hQ hA [0] rfl rfl (by decide) [] rfl⟩ rfl rfl hl.1 rfl (lv_room (Nat.le_of_ble_eq_true rfl)) dX8_isOff_7 ⟨zl_b rfl, zl_b rfl⟩) hS (fun q _ h => hFc q h) hFc (fun r_1 u t9 H1 locs ht hvm hw hB hz1 hk1 hS => ?_)
  obtain ⟨hP1, hK1, hD1⟩ := hB
  rw [ht] at hP1
  have hK1 := va_K.moved hvm.symm hK1
  obtain ⟨hP, hD⟩ := va_join (wr := [(ac, .inr (0, [.int 0, ed, .int 0]))]) (w1 := [(h0, .inr (7, [.ref ac, cu, .int dd, .int 1]))]) hP hD [0] [1] rfl rfl (by decide) (by decide) hk1 hFc hP1 hD1
  have hK := (hK.sub (tys' := []) [] rfl).app hK1
  generalize H1 = H at hP hS ⊢
  have hP : va_P (dC, dI) zc [(ac, .inr (0, [.int 0, ed, .int 0])), (h0, .inr (7, [.ref ac, cu, .int dd, .int 1]))] H := hP
  have hD : va_D A [(ac, .inr (0, [.int 0, ed, .int 0])), (h0, .inr (7, [.ref ac, cu, .int dd, .int 1]))] := hD
  have hK : va_K (dC, dI) zc [] s := hK
  obtain rfl : r_1 = 1 := hw
  refine lv_if_ne (tgt := 28) hx hb dX8_isOff_10 (by decide) (fun c_2 => ?_) (fun c_2 => absurd c_2 (by decide))
  refine lv_iconst (v := 0) hx hb dX8_isOff_28 (by decide) ?_
  have hP9 := hP.sub (ws' := [(h0, .inr (7, [.ref ac, cu, .int dd, .int 1])), (ac, .inr (0, [.int 0, ed, .int 0]))]) [1, 0] rfl
  have hD9 := hD.sub (ws' := [(h0, .inr (7, [.ref ac, cu, .int dd, .int 1])), (ac, .inr (0, [.int 0, ed, .int 0]))]) [1, 0] (by decide) rfl
  have hK9 := hK.sub (tys' := []) [] rfl
  exact W.zret (ty := .boolean) hx hb hr rfl (fun t ht hW => ⟨⟨_, (), rfl, trivial, by rw [ht]; exact hP9, va_K.moved hW.alike hK9, hD9⟩, hS.F ht⟩) hS.2.2 dX8_isOff_29
set_option maxHeartbeats 4000000 in
set_option maxRecDepth 100000 in
/-- points of the model: no such account -/
theorem m_points (l : Launch) (dC : Nat → ClassId) (dI : Nat → Nat → Nat) (sz t : Nat) (h0 ac : Nat) (cu : Value) (dd th : Int32) (ed : Value) (a1 : Int32) : Met l yX8_points ws_X8_points ({ frames := 3, cells := 0, slots := 0, locals := 55 }) (zA dC dI [(h0, .inr (7, [.ref ac, cu, .int dd, .int th])), (ac, .inr (0, [.int 0, ed, .int 0]))] [] sz t [.ref h0, .int a1]) (va_Ql (fun r (_ : Unit) => True) (fun _ t9 => zB dC dI (va_A [(h0, .inr (7, [.ref ac, cu, .int dd, .int th])), (ac, .inr (0, [.int 0, ed, .int 0]))] sz) [(h0, .inr (7, [.ref ac, cu, .int dd, .int 1])), (ac, .inr (0, [.int 0, ed, .int 0]))] [] t9) (va_A [(h0, .inr (7, [.ref ac, cu, .int dd, .int th])), (ac, .inr (0, [.int 0, ed, .int 0]))] sz)) 0 0 (va_A [(h0, .inr (7, [.ref ac, cu, .int dd, .int th])), (ac, .inr (0, [.int 0, ed, .int 0]))] sz) := by
  refine Met.ofW (cc := cX8_points) (maxL := 2) (ret := (some .long)) (by decide) rfl ?_
  intro p e s m args below meth c s₁ B hml hv
  obtain ⟨rfl, hsz, hP, hK, hD0, hQ⟩ := hv
  have hx := B.exec
  have hb := B.bytes
  have hr := B.returns
  have hts : ∀ w ∈ zG, w.before _ s = true := fun w h => atoms_spec (ws := ws_X8_points) B.pre w (List.mem_cons_of_mem _ h)
  have hown : s.vm.findClass RX8 = some m.cls := findClass_of_methodNamed B.named
  have hlocks := B.notSynchronized
  subst hsz
  have hD := hD0.self (sz := s.heap.size)
  generalize hAe : va_A [(h0, .inr (7, [.ref ac, cu, .int dd, .int th])), (ac, .inr (0, [.int 0, ed, .int 0]))] s.heap.size = A at hD hQ ⊢
  have hA : ∀ q : Nat, s.heap.size ≤ q → A q := fun q h => by rw [← hAe]; exact Or.inr h
  have hS : va_S A s.heap s.heap [] := va_S.rf
  have hP : va_P (dC, dI) zc [(h0, .inr (7, [.ref ac, cu, .int dd, .int th])), (ac, .inr (0, [.int 0, ed, .int 0]))] s.heap := hP
  have hl := lv_entry ([.ref h0, .int a1]) (n := 2) (Nat.le_of_ble_eq_true rfl)
  rw [lg_entry_eq]
  generalize (lg_sl ([.ref h0, .int a1]) ++ List.replicate (2 - (lg_sl ([.ref h0, .int a1])).length) Slot.unset).toArray = ls at hl ⊢
  have hl : lv_has ls 2 [(0, .ref h0), (1, .int a1)] := hl
  refine lv_aload_n hx hb dX8_points_0 rfl (lv_at hl 0 rfl) ?_
  refine lv_aload_n hx hb dX8_points_1 rfl (lv_at hl 0 rfl) ?_
  refine lv_iload_n hx hb dX8_points_2 rfl (lv_at hl 1 rfl) ?_
  refine vp_callSi (W.runV (As := [.int a1]) (rest := [.ref h0]) ⟨hx, hb, hml, hown, hts⟩ (c_isAccount l dC dI s.heap.size t h0 ac cu dd th a1 ed) (cwV 1 hts (zg_V kw_1432 kw_1434 kw_41 kw_70 kw_1435) rfl rfl rfl (by decide +kernel) ⟨Nat.le_of_ble_eq_true rfl, Nat.le_of_ble_eq_true rfl⟩) ⟨zA_blind, va_recv hK hP (ci := 7) (q0 := 0) rfl rfl, zA_pre hP hD hS hK hQ hA [0, 1] rfl rfl (by decide) [] rfl⟩ rfl rfl hl.1 rfl (lv_room (Nat.le_of_ble_eq_true rfl)) dX8_points_3 ⟨zl_b rfl, zl_b rfl⟩) (fun r hr => ?_)
  subst hr
  refine lv_iconst (v := 1) hx hb dX8_points_6 (by decide) ?_
  have hFc := va_free (wc := [(h0, .inr (7, [.ref ac, cu, .int dd, .int th]))]) hD hS hA [0] rfl
  refine va_calli (va_runV (As := [.int 0, .int 1]) (rest := []) ⟨hx, hb, hml, hown, hts⟩ (c_no0 l dC dI s.heap.size t h0 (.ref ac) cu dd th 1) (cwV 2 hts (zg_V kw_1377 kw_1379 kw_40 kw_70 kw_1380) rfl rfl rfl (by decide +kernel) ⟨Nat.le_of_ble_eq_true rfl, Nat.le_of_ble_eq_true rfl⟩) ⟨zA_blind, va_recv hK hP (ci := 7) (q0 := 0) rfl rfl, zA_pre hP hD hS hK hQ hA [0] rfl rfl (by decide) [] rfl⟩ rfl rfl hl.1 rfl (lv_room (Nat.le_of_ble_eq_true rfl)) dX8_points_7 ⟨zl_b rfl, zl_b rfl⟩) hS (fun q _ h => hFc q h) hFc (fun r_1 u t9 H1 locs ht hvm hw hB hz1 hk1 hS => ?_)
  obtain ⟨hP1, hK1, hD1⟩ := hB
  rw [ht] at hP1
  have hK1 := va_K.moved hvm.symm hK1
  obtain ⟨hP, hD⟩ := va_join (wr := [(ac, .inr (0, [.int 0, ed, .int 0]))]) (w1 := [(h0, .inr (7, [.ref ac, cu, .int dd, .int 1]))]) hP hD [0] [1] rfl rfl (by decide) (by decide) hk1 hFc hP1 hD1
  have hK := (hK.sub (tys' := []) [] rfl).app hK1
  generalize H1 = H at hP hS ⊢
  have hP : va_P (dC, dI) zc [(ac, .inr (0, [.int 0, ed, .int 0])), (h0, .inr (7, [.ref ac, cu, .int dd, .int 1]))] H := hP
  have hD : va_D A [(ac, .inr (0, [.int 0, ed, .int 0])), (h0, .inr (7, [.ref ac, cu, .int dd, .int 1]))] := hD
  have hK : va_K (dC, dI) zc [] s := hK
  obtain rfl : r_1 = 1 := hw
  refine lv_if_eq (tgt := 17) hx hb dX8_points_10 (by decide) (fun c_2 => absurd c_2 (by decide)) (fun c_2 => ?_)
  refine lv_lconst (v := 0) hx hb dX8_points_13 (by decide) ?_
  refine lv_goto (tgt := 22) hx hb dX8_points_14 (by decide) ?_
  have hP9 := hP.sub (ws' := [(h0, .inr (7, [.ref ac, cu, .int dd, .int 1])), (ac, .inr (0, [.int 0, ed, .int 0]))]) [1, 0] rfl
  have hD9 := hD.sub (ws' := [(h0, .inr (7, [.ref ac, cu, .int dd, .int 1])), (ac, .inr (0, [.int 0, ed, .int 0]))]) [1, 0] (by decide) rfl
  have hK9 := hK.sub (tys' := []) [] rfl
  exact W.lret hx hb hr (fun t ht hW => ⟨⟨_, (), rfl, trivial, by rw [ht]; exact hP9, va_K.moved hW.alike hK9, hD9⟩, hS.F ht⟩) hS.2.2 dX8_points_22
set_option maxHeartbeats 4000000 in
set_option maxRecDepth 100000 in
/-- events of the model: no such account -/
theorem m_events (l : Launch) (dC : Nat → ClassId) (dI : Nat → Nat → Nat) (sz t : Nat) (h0 ac : Nat) (cu : Value) (dd th : Int32) (ed : Value) (a1 : Int32) : Met l yX8_events ws_X8_events ({ frames := 3, cells := 0, slots := 0, locals := 55 }) (zA dC dI [(h0, .inr (7, [.ref ac, cu, .int dd, .int th])), (ac, .inr (0, [.int 0, ed, .int 0]))] [] sz t [.ref h0, .int a1]) (va_Qi (fun r (_ : Unit) => True) (fun _ t9 => zB dC dI (va_A [(h0, .inr (7, [.ref ac, cu, .int dd, .int th])), (ac, .inr (0, [.int 0, ed, .int 0]))] sz) [(h0, .inr (7, [.ref ac, cu, .int dd, .int 1])), (ac, .inr (0, [.int 0, ed, .int 0]))] [] t9) (va_A [(h0, .inr (7, [.ref ac, cu, .int dd, .int th])), (ac, .inr (0, [.int 0, ed, .int 0]))] sz)) 0 0 (va_A [(h0, .inr (7, [.ref ac, cu, .int dd, .int th])), (ac, .inr (0, [.int 0, ed, .int 0]))] sz) := by
  refine Met.ofW (cc := cX8_events) (maxL := 2) (ret := (some .int)) (by decide) rfl ?_
  intro p e s m args below meth c s₁ B hml hv
  obtain ⟨rfl, hsz, hP, hK, hD0, hQ⟩ := hv
  have hx := B.exec
  have hb := B.bytes
  have hr := B.returns
  have hts : ∀ w ∈ zG, w.before _ s = true := fun w h => atoms_spec (ws := ws_X8_events) B.pre w (List.mem_cons_of_mem _ h)
  have hown : s.vm.findClass RX8 = some m.cls := findClass_of_methodNamed B.named
  have hlocks := B.notSynchronized
  subst hsz
  have hD := hD0.self (sz := s.heap.size)
  generalize hAe : va_A [(h0, .inr (7, [.ref ac, cu, .int dd, .int th])), (ac, .inr (0, [.int 0, ed, .int 0]))] s.heap.size = A at hD hQ ⊢
  have hA : ∀ q : Nat, s.heap.size ≤ q → A q := fun q h => by rw [← hAe]; exact Or.inr h
  have hS : va_S A s.heap s.heap [] := va_S.rf
  have hP : va_P (dC, dI) zc [(h0, .inr (7, [.ref ac, cu, .int dd, .int th])), (ac, .inr (0, [.int 0, ed, .int 0]))] s.heap := hP
  have hl := lv_entry ([.ref h0, .int a1]) (n := 2) (Nat.le_of_ble_eq_true rfl)
  rw [lg_entry_eq]
  generalize (lg_sl ([.ref h0, .int a1]) ++ List.replicate (2 - (lg_sl ([.ref h0, .int a1])).length) Slot.unset).toArray = ls at hl ⊢
  have hl : lv_has ls 2 [(0, .ref h0), (1, .int a1)] := hl
  refine lv_aload_n hx hb dX8_events_0 rfl (lv_at hl 0 rfl) ?_
  refine lv_aload_n hx hb dX8_events_1 rfl (lv_at hl 0 rfl) ?_
  refine lv_iload_n hx hb dX8_events_2 rfl (lv_at hl 1 rfl) ?_
  refine vp_callSi (W.runV (As := [.int a1]) (rest := [.ref h0]) ⟨hx, hb, hml, hown, hts⟩ (c_isAccount l dC dI s.heap.size t h0 ac cu dd th a1 ed) (cwV 1 hts (zg_V kw_1432 kw_1434 kw_41 kw_70 kw_1435) rfl rfl rfl (by decide +kernel) ⟨Nat.le_of_ble_eq_true rfl, Nat.le_of_ble_eq_true rfl⟩) ⟨zA_blind, va_recv hK hP (ci := 7) (q0 := 0) rfl rfl, zA_pre hP hD hS hK hQ hA [0, 1] rfl rfl (by decide) [] rfl⟩ rfl rfl hl.1 rfl (lv_room (Nat.le_of_ble_eq_true rfl)) dX8_events_3 ⟨zl_b rfl, zl_b rfl⟩) (fun r hr => ?_)
  subst hr
  refine lv_iconst (v := 1) hx hb dX8_events_6 (by decide) ?_
  have hFc := va_free (wc := [(h0, .inr (7, [.ref ac, cu, .int dd, .int th]))]) hD hS hA [0] rfl
  refine va_calli (va_runV (As := [.int 0, .int 1]) (rest := []) ⟨hx, hb, hml, hown, hts⟩ (c_no0 l dC dI s.heap.size t h0 (.ref ac) cu dd th 1) (cwV 2 hts (zg_V kw_1377 kw_1379 kw_40 kw_70 kw_1380) rfl rfl rfl (by decide +kernel) ⟨Nat.le_of_ble_eq_true rfl, Nat.le_of_ble_eq_true rfl⟩) ⟨zA_blind, va_recv hK hP (ci := 7) (q0 := 0) rfl rfl, zA_pre hP hD hS hK hQ hA [0] rfl rfl (by decide) [] rfl⟩ rfl rfl hl.1 rfl (lv_room (Nat.le_of_ble_eq_true rfl)) dX8_events_7 ⟨zl_b rfl, zl_b rfl⟩) hS (fun q _ h => hFc q h) hFc (fun r_1 u t9 H1 locs ht hvm hw hB hz1 hk1 hS => ?_)
  obtain ⟨hP1, hK1, hD1⟩ := hB
  rw [ht] at hP1
  have hK1 := va_K.moved hvm.symm hK1
  obtain ⟨hP, hD⟩ := va_join (wr := [(ac, .inr (0, [.int 0, ed, .int 0]))]) (w1 := [(h0, .inr (7, [.ref ac, cu, .int dd, .int 1]))]) hP hD [0] [1] rfl rfl (by decide) (by decide) hk1 hFc hP1 hD1
  have hK := (hK.sub (tys' := []) [] rfl).app hK1
  generalize H1 = H at hP hS ⊢
  have hP : va_P (dC, dI) zc [(ac, .inr (0, [.int 0, ed, .int 0])), (h0, .inr (7, [.ref ac, cu, .int dd, .int 1]))] H := hP
  have hD : va_D A [(ac, .inr (0, [.int 0, ed, .int 0])), (h0, .inr (7, [.ref ac, cu, .int dd, .int 1]))] := hD
  have hK : va_K (dC, dI) zc [] s := hK
  obtain rfl : r_1 = 1 := hw
  refine lv_if_eq (tgt := 17) hx hb dX8_events_10 (by decide) (fun c_2 => absurd c_2 (by decide)) (fun c_2 => ?_)
  refine lv_iconst (v := 0) hx hb dX8_events_13 (by decide) ?_
  refine lv_goto (tgt := 38) hx hb dX8_events_14 (by decide) ?_
  have hP9 := hP.sub (ws' := [(h0, .inr (7, [.ref ac, cu, .int dd, .int 1])), (ac, .inr (0, [.int 0, ed, .int 0]))]) [1, 0] rfl
  have hD9 := hD.sub (ws' := [(h0, .inr (7, [.ref ac, cu, .int dd, .int 1])), (ac, .inr (0, [.int 0, ed, .int 0]))]) [1, 0] (by decide) rfl
  have hK9 := hK.sub (tys' := []) [] rfl
  exact W.iret hx hb hr (fun t ht hW => ⟨⟨_, (), rfl, trivial, by rw [ht]; exact hP9, va_K.moved hW.alike hK9, hD9⟩, hS.F ht⟩) hS.2.2 dX8_events_38
set_option maxHeartbeats 4000000 in
set_option maxRecDepth 100000 in
/-- kindOf of the model: no such account -/
theorem m_kindOf (l : Launch) (dC : Nat → ClassId) (dI : Nat → Nat → Nat) (sz t : Nat) (h0 ac : Nat) (cu : Value) (dd th : Int32) (ed : Value) (a1 a2 : Int32) : Met l yX8_kindOf ws_X8_kindOf ({ frames := 4, cells := 0, slots := 0, locals := 77 }) (zA dC dI [(h0, .inr (7, [.ref ac, cu, .int dd, .int th])), (ac, .inr (0, [.int 0, ed, .int 0]))] [] sz t [.ref h0, .int a1, .int a2]) (va_Qi (fun r (_ : Unit) => True) (fun _ t9 => zB dC dI (va_A [(h0, .inr (7, [.ref ac, cu, .int dd, .int th])), (ac, .inr (0, [.int 0, ed, .int 0]))] sz) [(h0, .inr (7, [.ref ac, cu, .int dd, .int 1])), (ac, .inr (0, [.int 0, ed, .int 0]))] [] t9) (va_A [(h0, .inr (7, [.ref ac, cu, .int dd, .int th])), (ac, .inr (0, [.int 0, ed, .int 0]))] sz)) 0 0 (va_A [(h0, .inr (7, [.ref ac, cu, .int dd, .int th])), (ac, .inr (0, [.int 0, ed, .int 0]))] sz) := by
  refine Met.ofW (cc := cX8_kindOf) (maxL := 3) (ret := (some .char)) (by decide) rfl ?_
  intro p e s m args below meth c s₁ B hml hv
  obtain ⟨rfl, hsz, hP, hK, hD0, hQ⟩ := hv
  have hx := B.exec
  have hb := B.bytes
  have hr := B.returns
  have hts : ∀ w ∈ zG, w.before _ s = true := fun w h => atoms_spec (ws := ws_X8_kindOf) B.pre w (List.mem_cons_of_mem _ h)
  have hown : s.vm.findClass RX8 = some m.cls := findClass_of_methodNamed B.named
  have hlocks := B.notSynchronized
  subst hsz
  have hD := hD0.self (sz := s.heap.size)
  generalize hAe : va_A [(h0, .inr (7, [.ref ac, cu, .int dd, .int th])), (ac, .inr (0, [.int 0, ed, .int 0]))] s.heap.size = A at hD hQ ⊢
  have hA : ∀ q : Nat, s.heap.size ≤ q → A q := fun q h => by rw [← hAe]; exact Or.inr h
  have hS : va_S A s.heap s.heap [] := va_S.rf
  have hP : va_P (dC, dI) zc [(h0, .inr (7, [.ref ac, cu, .int dd, .int th])), (ac, .inr (0, [.int 0, ed, .int 0]))] s.heap := hP
  have hl := lv_entry ([.ref h0, .int a1, .int a2]) (n := 3) (Nat.le_of_ble_eq_true rfl)
  rw [lg_entry_eq]
  generalize (lg_sl ([.ref h0, .int a1, .int a2]) ++ List.replicate (3 - (lg_sl ([.ref h0, .int a1, .int a2])).length) Slot.unset).toArray = ls at hl ⊢
  have hl : lv_has ls 3 [(0, .ref h0), (1, .int a1), (2, .int a2)] := hl
  refine lv_aload_n hx hb dX8_kindOf_0 rfl (lv_at hl 0 rfl) ?_
  refine lv_aload_n hx hb dX8_kindOf_1 rfl (lv_at hl 0 rfl) ?_
  refine lv_iload_n hx hb dX8_kindOf_2 rfl (lv_at hl 1 rfl) ?_
  refine lv_iload_n hx hb dX8_kindOf_3 rfl (lv_at hl 2 rfl) ?_
  refine vp_callSi (W.runV (As := [.int a1, .int a2]) (rest := [.ref h0]) ⟨hx, hb, hml, hown, hts⟩ (c_isEvent l dC dI s.heap.size t h0 ac cu dd th a1 a2 ed) (cwV 2 hts (zg_V kw_1802 kw_1804 kw_58 kw_70 kw_1805) rfl rfl rfl (by decide +kernel) ⟨Nat.le_of_ble_eq_true rfl, Nat.le_of_ble_eq_true rfl⟩) ⟨zA_blind, va_recv hK hP (ci := 7) (q0 := 0) rfl rfl, zA_pre hP hD hS hK hQ hA [0, 1] rfl rfl (by decide) [] rfl⟩ rfl rfl hl.1 rfl (lv_room (Nat.le_of_ble_eq_true rfl)) dX8_kindOf_4 ⟨zl_b rfl, zl_b rfl⟩) (fun r hr => ?_)
  subst hr
  refine lv_iconst (v := 1) hx hb dX8_kindOf_7 (by decide) ?_
  have hFc := va_free (wc := [(h0, .inr (7, [.ref ac, cu, .int dd, .int th]))]) hD hS hA [0] rfl
  refine va_calli (va_runV (As := [.int 0, .int 1]) (rest := []) ⟨hx, hb, hml, hown, hts⟩ (c_no0 l dC dI s.heap.size t h0 (.ref ac) cu dd th 1) (cwV 2 hts (zg_V kw_1377 kw_1379 kw_40 kw_70 kw_1380) rfl rfl rfl (by decide +kernel) ⟨Nat.le_of_ble_eq_true rfl, Nat.le_of_ble_eq_true rfl⟩) ⟨zA_blind, va_recv hK hP (ci := 7) (q0 := 0) rfl rfl, zA_pre hP hD hS hK hQ hA [0] rfl rfl (by decide) [] rfl⟩ rfl rfl hl.1 rfl (lv_room (Nat.le_of_ble_eq_true rfl)) dX8_kindOf_8 ⟨zl_b rfl, zl_b rfl⟩) hS (fun q _ h => hFc q h) hFc (fun r_1 u t9 H1 locs ht hvm hw hB hz1 hk1 hS => ?_)
  obtain ⟨hP1, hK1, hD1⟩ := hB
  rw [ht] at hP1
  have hK1 := va_K.moved hvm.symm hK1
  obtain ⟨hP, hD⟩ := va_join (wr := [(ac, .inr (0, [.int 0, ed, .int 0]))]) (w1 := [(h0, .inr (7, [.ref ac, cu, .int dd, .int 1]))]) hP hD [0] [1] rfl rfl (by decide) (by decide) hk1 hFc hP1 hD1
  have hK := (hK.sub (tys' := []) [] rfl).app hK1
  generalize H1 = H at hP hS ⊢
  have hP : va_P (dC, dI) zc [(ac, .inr (0, [.int 0, ed, .int 0])), (h0, .inr (7, [.ref ac, cu, .int dd, .int 1]))] H := hP
  have hD : va_D A [(ac, .inr (0, [.int 0, ed, .int 0])), (h0, .inr (7, [.ref ac, cu, .int dd, .int 1]))] := hD
  have hK : va_K (dC, dI) zc [] s := hK
  obtain rfl : r_1 = 1 := hw
  refine lv_if_eq (tgt := 19) hx hb dX8_kindOf_11 (by decide) (fun c_2 => absurd c_2 (by decide)) (fun c_2 => ?_)
  refine lv_bipush (v := 45) hx hb dX8_kindOf_14 (by decide) ?_
  refine lv_goto (tgt := 28) hx hb dX8_kindOf_16 (by decide) ?_
  have hP9 := hP.sub (ws' := [(h0, .inr (7, [.ref ac, cu, .int dd, .int 1])), (ac, .inr (0, [.int 0, ed, .int 0]))]) [1, 0] rfl
  have hD9 := hD.sub (ws' := [(h0, .inr (7, [.ref ac, cu, .int dd, .int 1])), (ac, .inr (0, [.int 0, ed, .int 0]))]) [1, 0] (by decide) rfl
  have hK9 := hK.sub (tys' := []) [] rfl
  exact W.zret (ty := .char) hx hb hr rfl (fun t ht hW => ⟨⟨_, (), rfl, trivial, by rw [ht]; exact hP9, va_K.moved hW.alike hK9, hD9⟩, hS.F ht⟩) hS.2.2 dX8_kindOf_28
set_option maxHeartbeats 4000000 in
set_option maxRecDepth 100000 in
/-- isBack of the model: no such account -/
theorem m_isBack (l : Launch) (dC : Nat → ClassId) (dI : Nat → Nat → Nat) (sz t : Nat) (h0 ac : Nat) (cu : Value) (dd th : Int32) (ed : Value) (a1 a2 : Int32) : Met l yX8_isBack ws_X8_isBack ({ frames := 4, cells := 0, slots := 0, locals := 77 }) (zA dC dI [(h0, .inr (7, [.ref ac, cu, .int dd, .int th])), (ac, .inr (0, [.int 0, ed, .int 0]))] [] sz t [.ref h0, .int a1, .int a2]) (va_Qi (fun r (_ : Unit) => True) (fun _ t9 => zB dC dI (va_A [(h0, .inr (7, [.ref ac, cu, .int dd, .int th])), (ac, .inr (0, [.int 0, ed, .int 0]))] sz) [(h0, .inr (7, [.ref ac, cu, .int dd, .int 1])), (ac, .inr (0, [.int 0, ed, .int 0]))] [] t9) (va_A [(h0, .inr (7, [.ref ac, cu, .int dd, .int th])), (ac, .inr (0, [.int 0, ed, .int 0]))] sz)) 0 0 (va_A [(h0, .inr (7, [.ref ac, cu, .int dd, .int th])), (ac, .inr (0, [.int 0, ed, .int 0]))] sz) := by
  refine Met.ofW (cc := cX8_isBack) (maxL := 3) (ret := (some .boolean)) (by decide) rfl ?_
  intro p e s m args below meth c s₁ B hml hv
  obtain ⟨rfl, hsz, hP, hK, hD0, hQ⟩ := hv
  have hx := B.exec
  have hb := B.bytes
  have hr := B.returns
  have hts : ∀ w ∈ zG, w.before _ s = true := fun w h => atoms_spec (ws := ws_X8_isBack) B.pre w (List.mem_cons_of_mem _ h)
  have hown : s.vm.findClass RX8 = some m.cls := findClass_of_methodNamed B.named
  have hlocks := B.notSynchronized
  subst hsz
  have hD := hD0.self (sz := s.heap.size)
  generalize hAe : va_A [(h0, .inr (7, [.ref ac, cu, .int dd, .int th])), (ac, .inr (0, [.int 0, ed, .int 0]))] s.heap.size = A at hD hQ ⊢
  have hA : ∀ q : Nat, s.heap.size ≤ q → A q := fun q h => by rw [← hAe]; exact Or.inr h
  have hS : va_S A s.heap s.heap [] := va_S.rf
  have hP : va_P (dC, dI) zc [(h0, .inr (7, [.ref ac, cu, .int dd, .int th])), (ac, .inr (0, [.int 0, ed, .int 0]))] s.heap := hP
  have hl := lv_entry ([.ref h0, .int a1, .int a2]) (n := 3) (Nat.le_of_ble_eq_true rfl)
  rw [lg_entry_eq]
  generalize (lg_sl ([.ref h0, .int a1, .int a2]) ++ List.replicate (3 - (lg_sl ([.ref h0, .int a1, .int a2])).length) Slot.unset).toArray = ls at hl ⊢
  have hl : lv_has ls 3 [(0, .ref h0), (1, .int a1), (2, .int a2)] := hl
  refine lv_aload_n hx hb dX8_isBack_0 rfl (lv_at hl 0 rfl) ?_
  refine lv_aload_n hx hb dX8_isBack_1 rfl (lv_at hl 0 rfl) ?_
  refine lv_iload_n hx hb dX8_isBack_2 rfl (lv_at hl 1 rfl) ?_
  refine lv_iload_n hx hb dX8_isBack_3 rfl (lv_at hl 2 rfl) ?_
  refine vp_callSi (W.runV (As := [.int a1, .int a2]) (rest := [.ref h0]) ⟨hx, hb, hml, hown, hts⟩ (c_isEvent l dC dI s.heap.size t h0 ac cu dd th a1 a2 ed) (cwV 2 hts (zg_V kw_1802 kw_1804 kw_58 kw_70 kw_1805) rfl rfl rfl (by decide +kernel) ⟨Nat.le_of_ble_eq_true rfl, Nat.le_of_ble_eq_true rfl⟩) ⟨zA_blind, va_recv hK hP (ci := 7) (q0 := 0) rfl rfl, zA_pre hP hD hS hK hQ hA [0, 1] rfl rfl (by decide) [] rfl⟩ rfl rfl hl.1 rfl (lv_room (Nat.le_of_ble_eq_true rfl)) dX8_isBack_4 ⟨zl_b rfl, zl_b rfl⟩) (fun r hr => ?_)
  subst hr
  refine lv_iconst (v := 1) hx hb dX8_isBack_7 (by decide) ?_
  have hFc := va_free (wc := [(h0, .inr (7, [.ref ac, cu, .int dd, .int th]))]) hD hS hA [0] rfl
  refine va_calli (va_runV (As := [.int 0, .int 1]) (rest := []) ⟨hx, hb, hml, hown, hts⟩ (c_no0 l dC dI s.heap.size t h0 (.ref ac) cu dd th 1) (cwV 2 hts (zg_V kw_1377 kw_1379 kw_40 kw_70 kw_1380) rfl rfl rfl (by decide +kernel) ⟨Nat.le_of_ble_eq_true rfl, Nat.le_of_ble_eq_true rfl⟩) ⟨zA_blind, va_recv hK hP (ci := 7) (q0 := 0) rfl rfl, zA_pre hP hD hS hK hQ hA [0] rfl rfl (by decide) [] rfl⟩ rfl rfl hl.1 rfl (lv_room (Nat.le_of_ble_eq_true rfl)) dX8_isBack_8 ⟨zl_b rfl, zl_b rfl⟩) hS (fun q _ h => hFc q h) hFc (fun r_1 u t9 H1 locs ht hvm hw hB hz1 hk1 hS => ?_)
  obtain ⟨hP1, hK1, hD1⟩ := hB
  rw [ht] at hP1
  have hK1 := va_K.moved hvm.symm hK1
  obtain ⟨hP, hD⟩ := va_join (wr := [(ac, .inr (0, [.int 0, ed, .int 0]))]) (w1 := [(h0, .inr (7, [.ref ac, cu, .int dd, .int 1]))]) hP hD [0] [1] rfl rfl (by decide) (by decide) hk1 hFc hP1 hD1
  have hK := (hK.sub (tys' := []) [] rfl).app hK1
  generalize H1 = H at hP hS ⊢
  have hP : va_P (dC, dI) zc [(ac, .inr (0, [.int 0, ed, .int 0])), (h0, .inr (7, [.ref ac, cu, .int dd, .int 1]))] H := hP
  have hD : va_D A [(ac, .inr (0, [.int 0, ed, .int 0])), (h0, .inr (7, [.ref ac, cu, .int dd, .int 1]))] := hD
  have hK : va_K (dC, dI) zc [] s := hK
  obtain rfl : r_1 = 1 := hw
  refine lv_if_ne (tgt := 30) hx hb dX8_isBack_11 (by decide) (fun c_2 => ?_) (fun c_2 => absurd c_2 (by decide))
  refine lv_iconst (v := 0) hx hb dX8_isBack_30 (by decide) ?_
  have hP9 := hP.sub (ws' := [(h0, .inr (7, [.ref ac, cu, .int dd, .int 1])), (ac, .inr (0, [.int 0, ed, .int 0]))]) [1, 0] rfl
  have hD9 := hD.sub (ws' := [(h0, .inr (7, [.ref ac, cu, .int dd, .int 1])), (ac, .inr (0, [.int 0, ed, .int 0]))]) [1, 0] (by decide) rfl
  have hK9 := hK.sub (tys' := []) [] rfl
  exact W.zret (ty := .boolean) hx hb hr rfl (fun t ht hW => ⟨⟨_, (), rfl, trivial, by rw [ht]; exact hP9, va_K.moved hW.alike hK9, hD9⟩, hS.F ht⟩) hS.2.2 dX8_isBack_31
set_option maxHeartbeats 4000000 in
set_option maxRecDepth 100000 in
/-- sum of the model: no such account -/
theorem m_sum (l : Launch) (dC : Nat → ClassId) (dI : Nat → Nat → Nat) (sz t : Nat) (h0 ac : Nat) (cu : Value) (dd th : Int32) (ed : Value) (a1 a2 : Int32) : Met l yX8_sum ws_X8_sum ({ frames := 4, cells := 0, slots := 0, locals := 77 }) (zA dC dI [(h0, .inr (7, [.ref ac, cu, .int dd, .int th])), (ac, .inr (0, [.int 0, ed, .int 0]))] [] sz t [.ref h0, .int a1, .int a2]) (va_Qi (fun r (_ : Unit) => True) (fun _ t9 => zB dC dI (va_A [(h0, .inr (7, [.ref ac, cu, .int dd, .int th])), (ac, .inr (0, [.int 0, ed, .int 0]))] sz) [(h0, .inr (7, [.ref ac, cu, .int dd, .int 1])), (ac, .inr (0, [.int 0, ed, .int 0]))] [] t9) (va_A [(h0, .inr (7, [.ref ac, cu, .int dd, .int th])), (ac, .inr (0, [.int 0, ed, .int 0]))] sz)) 0 0 (va_A [(h0, .inr (7, [.ref ac, cu, .int dd, .int th])), (ac, .inr (0, [.int 0, ed, .int 0]))] sz) := by
  refine Met.ofW (cc := cX8_sum) (maxL := 3) (ret := (some .int)) (by decide) rfl ?_
  intro p e s m args below meth c s₁ B hml hv
  obtain ⟨rfl, hsz, hP, hK, hD0, hQ⟩ := hv
  have hx := B.exec
  have hb := B.bytes
  have hr := B.returns
  have hts : ∀ w ∈ zG, w.before _ s = true := fun w h => atoms_spec (ws := ws_X8_sum) B.pre w (List.mem_cons_of_mem _ h)
  have hown : s.vm.findClass RX8 = some m.cls := findClass_of_methodNamed B.named
  have hlocks := B.notSynchronized
  subst hsz
  have hD := hD0.self (sz := s.heap.size)
  generalize hAe : va_A [(h0, .inr (7, [.ref ac, cu, .int dd, .int th])), (ac, .inr (0, [.int 0, ed, .int 0]))] s.heap.size = A at hD hQ ⊢
  have hA : ∀ q : Nat, s.heap.size ≤ q → A q := fun q h => by rw [← hAe]; exact Or.inr h
  have hS : va_S A s.heap s.heap [] := va_S.rf
  have hP : va_P (dC, dI) zc [(h0, .inr (7, [.ref ac, cu, .int dd, .int th])), (ac, .inr (0, [.int 0, ed, .int 0]))] s.heap := hP
  have hl := lv_entry ([.ref h0, .int a1, .int a2]) (n := 3) (Nat.le_of_ble_eq_true rfl)
  rw [lg_entry_eq]
  generalize (lg_sl ([.ref h0, .int a1, .int a2]) ++ List.replicate (3 - (lg_sl ([.ref h0, .int a1, .int a2])).length) Slot.unset).toArray = ls at hl ⊢
  have hl : lv_has ls 3 [(0, .ref h0), (1, .int a1), (2, .int a2)] := hl
  refine lv_aload_n hx hb dX8_sum_0 rfl (lv_at hl 0 rfl) ?_
  refine lv_aload_n hx hb dX8_sum_1 rfl (lv_at hl 0 rfl) ?_
  refine lv_iload_n hx hb dX8_sum_2 rfl (lv_at hl 1 rfl) ?_
  refine lv_iload_n hx hb dX8_sum_3 rfl (lv_at hl 2 rfl) ?_
  refine vp_callSi (W.runV (As := [.int a1, .int a2]) (rest := [.ref h0]) ⟨hx, hb, hml, hown, hts⟩ (c_isEvent l dC dI s.heap.size t h0 ac cu dd th a1 a2 ed) (cwV 2 hts (zg_V kw_1802 kw_1804 kw_58 kw_70 kw_1805) rfl rfl rfl (by decide +kernel) ⟨Nat.le_of_ble_eq_true rfl, Nat.le_of_ble_eq_true rfl⟩) ⟨zA_blind, va_recv hK hP (ci := 7) (q0 := 0) rfl rfl, zA_pre hP hD hS hK hQ hA [0, 1] rfl rfl (by decide) [] rfl⟩ rfl rfl hl.1 rfl (lv_room (Nat.le_of_ble_eq_true rfl)) dX8_sum_4 ⟨zl_b rfl, zl_b rfl⟩) (fun r hr => ?_)
  subst hr
  refine lv_iconst (v := 1) hx hb dX8_sum_7 (by decide) ?_
  have hFc := va_free (wc := [(h0, .inr (7, [.ref ac, cu, .int dd, .int th]))]) hD hS hA [0] rfl
  refine va_calli (va_runV (As := [.int 0, .int 1]) (rest := []) ⟨hx, hb, hml, hown, hts⟩ (c_no0 l dC dI s.heap.size t h0 (.ref ac) cu dd th 1) (cwV 2 hts (zg_V kw_1377 kw_1379 kw_40 kw_70 kw_1380) rfl rfl rfl (by decide +kernel) ⟨Nat.le_of_ble_eq_true rfl, Nat.le_of_ble_eq_true rfl⟩) ⟨zA_blind, va_recv hK hP (ci := 7) (q0 := 0) rfl rfl, zA_pre hP hD hS hK hQ hA [0] rfl rfl (by decide) [] rfl⟩ rfl rfl hl.1 rfl (lv_room (Nat.le_of_ble_eq_true rfl)) dX8_sum_8 ⟨zl_b rfl, zl_b rfl⟩) hS (fun q _ h => hFc q h) hFc (fun r_1 u t9 H1 locs ht hvm hw hB hz1 hk1 hS => ?_)
  obtain ⟨hP1, hK1, hD1⟩ := hB
  rw [ht] at hP1
  have hK1 := va_K.moved hvm.symm hK1
  obtain ⟨hP, hD⟩ := va_join (wr := [(ac, .inr (0, [.int 0, ed, .int 0]))]) (w1 := [(h0, .inr (7, [.ref ac, cu, .int dd, .int 1]))]) hP hD [0] [1] rfl rfl (by decide) (by decide) hk1 hFc hP1 hD1
  have hK := (hK.sub (tys' := []) [] rfl).app hK1
  generalize H1 = H at hP hS ⊢
  have hP : va_P (dC, dI) zc [(ac, .inr (0, [.int 0, ed, .int 0])), (h0, .inr (7, [.ref ac, cu, .int dd, .int 1]))] H := hP
  have hD : va_D A [(ac, .inr (0, [.int 0, ed, .int 0])), (h0, .inr (7, [.ref ac, cu, .int dd, .int 1]))] := hD
  have hK : va_K (dC, dI) zc [] s := hK
  obtain rfl : r_1 = 1 := hw
  refine lv_if_eq (tgt := 18) hx hb dX8_sum_11 (by decide) (fun c_2 => absurd c_2 (by decide)) (fun c_2 => ?_)
  refine lv_iconst (v := 0) hx hb dX8_sum_14 (by decide) ?_
  refine lv_goto (tgt := 27) hx hb dX8_sum_15 (by decide) ?_
  have hP9 := hP.sub (ws' := [(h0, .inr (7, [.ref ac, cu, .int dd, .int 1])), (ac, .inr (0, [.int 0, ed, .int 0]))]) [1, 0] rfl
  have hD9 := hD.sub (ws' := [(h0, .inr (7, [.ref ac, cu, .int dd, .int 1])), (ac, .inr (0, [.int 0, ed, .int 0]))]) [1, 0] (by decide) rfl
  have hK9 := hK.sub (tys' := []) [] rfl
  exact W.iret hx hb hr (fun t ht hW => ⟨⟨_, (), rfl, trivial, by rw [ht]; exact hP9, va_K.moved hW.alike hK9, hD9⟩, hS.F ht⟩) hS.2.2 dX8_sum_27
set_option maxHeartbeats 4000000 in
set_option maxRecDepth 100000 in
/-- why of the model: no such account -/
theorem m_why (l : Launch) (dC : Nat → ClassId) (dI : Nat → Nat → Nat) (sz t : Nat) (h0 ac : Nat) (cu : Value) (dd th : Int32) (ed : Value) (a1 a2 a3 : Int32) : Met l yX8_why ws_X8_why ({ frames := 3, cells := 0, slots := 0, locals := 55 }) (zA dC dI [(h0, .inr (7, [.ref ac, cu, .int dd, .int th])), (ac, .inr (0, [.int 0, ed, .int 0]))] [] sz t [.ref h0, .int a1, .int a2, .int a3]) (va_Qi (fun r (_ : Unit) => True) (fun _ t9 => zB dC dI (va_A [(h0, .inr (7, [.ref ac, cu, .int dd, .int th])), (ac, .inr (0, [.int 0, ed, .int 0]))] sz) [(h0, .inr (7, [.ref ac, cu, .int dd, .int 1])), (ac, .inr (0, [.int 0, ed, .int 0]))] [] t9) (va_A [(h0, .inr (7, [.ref ac, cu, .int dd, .int th])), (ac, .inr (0, [.int 0, ed, .int 0]))] sz)) 0 0 (va_A [(h0, .inr (7, [.ref ac, cu, .int dd, .int th])), (ac, .inr (0, [.int 0, ed, .int 0]))] sz) := by
  refine Met.ofW (cc := cX8_why) (maxL := 6) (ret := (some .char)) (by decide) rfl ?_
  intro p e s m args below meth c s₁ B hml hv
  obtain ⟨rfl, hsz, hP, hK, hD0, hQ⟩ := hv
  have hx := B.exec
  have hb := B.bytes
  have hr := B.returns
  have hts : ∀ w ∈ zG, w.before _ s = true := fun w h => atoms_spec (ws := ws_X8_why) B.pre w (List.mem_cons_of_mem _ h)
  have hown : s.vm.findClass RX8 = some m.cls := findClass_of_methodNamed B.named
  have hlocks := B.notSynchronized
  subst hsz
  have hD := hD0.self (sz := s.heap.size)
  generalize hAe : va_A [(h0, .inr (7, [.ref ac, cu, .int dd, .int th])), (ac, .inr (0, [.int 0, ed, .int 0]))] s.heap.size = A at hD hQ ⊢
  have hA : ∀ q : Nat, s.heap.size ≤ q → A q := fun q h => by rw [← hAe]; exact Or.inr h
  have hS : va_S A s.heap s.heap [] := va_S.rf
  have hP : va_P (dC, dI) zc [(h0, .inr (7, [.ref ac, cu, .int dd, .int th])), (ac, .inr (0, [.int 0, ed, .int 0]))] s.heap := hP
  have hl := lv_entry ([.ref h0, .int a1, .int a2, .int a3]) (n := 6) (Nat.le_of_ble_eq_true rfl)
  rw [lg_entry_eq]
  generalize (lg_sl ([.ref h0, .int a1, .int a2, .int a3]) ++ List.replicate (6 - (lg_sl ([.ref h0, .int a1, .int a2, .int a3])).length) Slot.unset).toArray = ls at hl ⊢
  have hl : lv_has ls 6 [(0, .ref h0), (1, .int a1), (2, .int a2), (3, .int a3)] := hl
  refine lv_aload_n hx hb dX8_why_0 rfl (lv_at hl 0 rfl) ?_
  refine lv_aload_n hx hb dX8_why_1 rfl (lv_at hl 0 rfl) ?_
  refine lv_iload_n hx hb dX8_why_2 rfl (lv_at hl 1 rfl) ?_
  refine vp_callSi (W.runV (As := [.int a1]) (rest := [.ref h0]) ⟨hx, hb, hml, hown, hts⟩ (c_isAccount l dC dI s.heap.size t h0 ac cu dd th a1 ed) (cwV 1 hts (zg_V kw_1432 kw_1434 kw_41 kw_70 kw_1435) rfl rfl rfl (by decide +kernel) ⟨Nat.le_of_ble_eq_true rfl, Nat.le_of_ble_eq_true rfl⟩) ⟨zA_blind, va_recv hK hP (ci := 7) (q0 := 0) rfl rfl, zA_pre hP hD hS hK hQ hA [0, 1] rfl rfl (by decide) [] rfl⟩ rfl rfl hl.1 rfl (lv_room (Nat.le_of_ble_eq_true rfl)) dX8_why_3 ⟨zl_b rfl, zl_b rfl⟩) (fun r hr => ?_)
  subst hr
  refine lv_iconst (v := 1) hx hb dX8_why_6 (by decide) ?_
  have hFc := va_free (wc := [(h0, .inr (7, [.ref ac, cu, .int dd, .int th]))]) hD hS hA [0] rfl
  refine va_calli (va_runV (As := [.int 0, .int 1]) (rest := []) ⟨hx, hb, hml, hown, hts⟩ (c_no0 l dC dI s.heap.size t h0 (.ref ac) cu dd th 1) (cwV 2 hts (zg_V kw_1377 kw_1379 kw_40 kw_70 kw_1380) rfl rfl rfl (by decide +kernel) ⟨Nat.le_of_ble_eq_true rfl, Nat.le_of_ble_eq_true rfl⟩) ⟨zA_blind, va_recv hK hP (ci := 7) (q0 := 0) rfl rfl, zA_pre hP hD hS hK hQ hA [0] rfl rfl (by decide) [] rfl⟩ rfl rfl hl.1 rfl (lv_room (Nat.le_of_ble_eq_true rfl)) dX8_why_7 ⟨zl_b rfl, zl_b rfl⟩) hS (fun q _ h => hFc q h) hFc (fun r_1 u t9 H1 locs ht hvm hw hB hz1 hk1 hS => ?_)
  obtain ⟨hP1, hK1, hD1⟩ := hB
  rw [ht] at hP1
  have hK1 := va_K.moved hvm.symm hK1
  obtain ⟨hP, hD⟩ := va_join (wr := [(ac, .inr (0, [.int 0, ed, .int 0]))]) (w1 := [(h0, .inr (7, [.ref ac, cu, .int dd, .int 1]))]) hP hD [0] [1] rfl rfl (by decide) (by decide) hk1 hFc hP1 hD1
  have hK := (hK.sub (tys' := []) [] rfl).app hK1
  generalize H1 = H at hP hS ⊢
  have hP : va_P (dC, dI) zc [(ac, .inr (0, [.int 0, ed, .int 0])), (h0, .inr (7, [.ref ac, cu, .int dd, .int 1]))] H := hP
  have hD : va_D A [(ac, .inr (0, [.int 0, ed, .int 0])), (h0, .inr (7, [.ref ac, cu, .int dd, .int 1]))] := hD
  have hK : va_K (dC, dI) zc [] s := hK
  obtain rfl : r_1 = 1 := hw
  refine lv_if_ne (tgt := 43) hx hb dX8_why_10 (by decide) (fun c_2 => ?_) (fun c_2 => absurd c_2 (by decide))
  refine lv_bipush (v := 45) hx hb dX8_why_43 (by decide) ?_
  have hP9 := hP.sub (ws' := [(h0, .inr (7, [.ref ac, cu, .int dd, .int 1])), (ac, .inr (0, [.int 0, ed, .int 0]))]) [1, 0] rfl
  have hD9 := hD.sub (ws' := [(h0, .inr (7, [.ref ac, cu, .int dd, .int 1])), (ac, .inr (0, [.int 0, ed, .int 0]))]) [1, 0] (by decide) rfl
  have hK9 := hK.sub (tys' := []) [] rfl
  exact W.zret (ty := .char) hx hb hr rfl (fun t ht hW => ⟨⟨_, (), rfl, trivial, by rw [ht]; exact hP9, va_K.moved hW.alike hK9, hD9⟩, hS.F ht⟩) hS.2.2 dX8_why_45
set_option maxHeartbeats 4000000 in
set_option maxRecDepth 100000 in
/-- reasons of the model: no such account -/
theorem m_reasons (l : Launch) (dC : Nat → ClassId) (dI : Nat → Nat → Nat) (sz t : Nat) (h0 ac : Nat) (cu : Value) (dd th : Int32) (ed : Value) (a1 a2 a3 : Int32) : Met l yX8_reasons ws_X8_reasons ({ frames := 3, cells := 0, slots := 0, locals := 55 }) (zA dC dI [(h0, .inr (7, [.ref ac, cu, .int dd, .int th])), (ac, .inr (0, [.int 0, ed, .int 0]))] [] sz t [.ref h0, .int a1, .int a2, .int a3]) (va_Qi (fun r (_ : Unit) => True) (fun _ t9 => zB dC dI (va_A [(h0, .inr (7, [.ref ac, cu, .int dd, .int th])), (ac, .inr (0, [.int 0, ed, .int 0]))] sz) [(h0, .inr (7, [.ref ac, cu, .int dd, .int 1])), (ac, .inr (0, [.int 0, ed, .int 0]))] [] t9) (va_A [(h0, .inr (7, [.ref ac, cu, .int dd, .int th])), (ac, .inr (0, [.int 0, ed, .int 0]))] sz)) 0 0 (va_A [(h0, .inr (7, [.ref ac, cu, .int dd, .int th])), (ac, .inr (0, [.int 0, ed, .int 0]))] sz) := by
  refine Met.ofW (cc := cX8_reasons) (maxL := 4) (ret := (some .int)) (by decide) rfl ?_
  intro p e s m args below meth c s₁ B hml hv
  obtain ⟨rfl, hsz, hP, hK, hD0, hQ⟩ := hv
  have hx := B.exec
  have hb := B.bytes
  have hr := B.returns
  have hts : ∀ w ∈ zG, w.before _ s = true := fun w h => atoms_spec (ws := ws_X8_reasons) B.pre w (List.mem_cons_of_mem _ h)
  have hown : s.vm.findClass RX8 = some m.cls := findClass_of_methodNamed B.named
  have hlocks := B.notSynchronized
  subst hsz
  have hD := hD0.self (sz := s.heap.size)
  generalize hAe : va_A [(h0, .inr (7, [.ref ac, cu, .int dd, .int th])), (ac, .inr (0, [.int 0, ed, .int 0]))] s.heap.size = A at hD hQ ⊢
  have hA : ∀ q : Nat, s.heap.size ≤ q → A q := fun q h => by rw [← hAe]; exact Or.inr h
  have hS : va_S A s.heap s.heap [] := va_S.rf
  have hP : va_P (dC, dI) zc [(h0, .inr (7, [.ref ac, cu, .int dd, .int th])), (ac, .inr (0, [.int 0, ed, .int 0]))] s.heap := hP
  have hl := lv_entry ([.ref h0, .int a1, .int a2, .int a3]) (n := 4) (Nat.le_of_ble_eq_true rfl)
  rw [lg_entry_eq]
  generalize (lg_sl ([.ref h0, .int a1, .int a2, .int a3]) ++ List.replicate (4 - (lg_sl ([.ref h0, .int a1, .int a2, .int a3])).length) Slot.unset).toArray = ls at hl ⊢
  have hl : lv_has ls 4 [(0, .ref h0), (1, .int a1), (2, .int a2), (3, .int a3)] := hl
  refine lv_aload_n hx hb dX8_reasons_0 rfl (lv_at hl 0 rfl) ?_
  refine lv_aload_n hx hb dX8_reasons_1 rfl (lv_at hl 0 rfl) ?_
  refine lv_iload_n hx hb dX8_reasons_2 rfl (lv_at hl 1 rfl) ?_
  refine vp_callSi (W.runV (As := [.int a1]) (rest := [.ref h0]) ⟨hx, hb, hml, hown, hts⟩ (c_isAccount l dC dI s.heap.size t h0 ac cu dd th a1 ed) (cwV 1 hts (zg_V kw_1432 kw_1434 kw_41 kw_70 kw_1435) rfl rfl rfl (by decide +kernel) ⟨Nat.le_of_ble_eq_true rfl, Nat.le_of_ble_eq_true rfl⟩) ⟨zA_blind, va_recv hK hP (ci := 7) (q0 := 0) rfl rfl, zA_pre hP hD hS hK hQ hA [0, 1] rfl rfl (by decide) [] rfl⟩ rfl rfl hl.1 rfl (lv_room (Nat.le_of_ble_eq_true rfl)) dX8_reasons_3 ⟨zl_b rfl, zl_b rfl⟩) (fun r hr => ?_)
  subst hr
  refine lv_iconst (v := 1) hx hb dX8_reasons_6 (by decide) ?_
  have hFc := va_free (wc := [(h0, .inr (7, [.ref ac, cu, .int dd, .int th]))]) hD hS hA [0] rfl
  refine va_calli (va_runV (As := [.int 0, .int 1]) (rest := []) ⟨hx, hb, hml, hown, hts⟩ (c_no0 l dC dI s.heap.size t h0 (.ref ac) cu dd th 1) (cwV 2 hts (zg_V kw_1377 kw_1379 kw_40 kw_70 kw_1380) rfl rfl rfl (by decide +kernel) ⟨Nat.le_of_ble_eq_true rfl, Nat.le_of_ble_eq_true rfl⟩) ⟨zA_blind, va_recv hK hP (ci := 7) (q0 := 0) rfl rfl, zA_pre hP hD hS hK hQ hA [0] rfl rfl (by decide) [] rfl⟩ rfl rfl hl.1 rfl (lv_room (Nat.le_of_ble_eq_true rfl)) dX8_reasons_7 ⟨zl_b rfl, zl_b rfl⟩) hS (fun q _ h => hFc q h) hFc (fun r_1 u t9 H1 locs ht hvm hw hB hz1 hk1 hS => ?_)
  obtain ⟨hP1, hK1, hD1⟩ := hB
  rw [ht] at hP1
  have hK1 := va_K.moved hvm.symm hK1
  obtain ⟨hP, hD⟩ := va_join (wr := [(ac, .inr (0, [.int 0, ed, .int 0]))]) (w1 := [(h0, .inr (7, [.ref ac, cu, .int dd, .int 1]))]) hP hD [0] [1] rfl rfl (by decide) (by decide) hk1 hFc hP1 hD1
  have hK := (hK.sub (tys' := []) [] rfl).app hK1
  generalize H1 = H at hP hS ⊢
  have hP : va_P (dC, dI) zc [(ac, .inr (0, [.int 0, ed, .int 0])), (h0, .inr (7, [.ref ac, cu, .int dd, .int 1]))] H := hP
  have hD : va_D A [(ac, .inr (0, [.int 0, ed, .int 0])), (h0, .inr (7, [.ref ac, cu, .int dd, .int 1]))] := hD
  have hK : va_K (dC, dI) zc [] s := hK
  obtain rfl : r_1 = 1 := hw
  refine lv_if_ne (tgt := 43) hx hb dX8_reasons_10 (by decide) (fun c_2 => ?_) (fun c_2 => absurd c_2 (by decide))
  refine lv_iconst (v := 0) hx hb dX8_reasons_43 (by decide) ?_
  refine lv_goto (tgt := 58) hx hb dX8_reasons_44 (by decide) ?_
  have hP9 := hP.sub (ws' := [(h0, .inr (7, [.ref ac, cu, .int dd, .int 1])), (ac, .inr (0, [.int 0, ed, .int 0]))]) [1, 0] rfl
  have hD9 := hD.sub (ws' := [(h0, .inr (7, [.ref ac, cu, .int dd, .int 1])), (ac, .inr (0, [.int 0, ed, .int 0]))]) [1, 0] (by decide) rfl
  have hK9 := hK.sub (tys' := []) [] rfl
  exact W.iret hx hb hr (fun t ht hW => ⟨⟨_, (), rfl, trivial, by rw [ht]; exact hP9, va_K.moved hW.alike hK9, hD9⟩, hS.F ht⟩) hS.2.2 dX8_reasons_58
end
