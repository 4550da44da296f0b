section
-- ===== PART A: goes FIRST, ahead of the names: the tables' words, and 'selects' of the private methods out of them =====
/-- a private method of a class that the tables say can be made, by its rows of tables_1 -/
def lw_okq (q : MethodName × Nat) : Prop := (q.1.cls ≠ "java/lang/invoke/MethodHandle" ∧ q.1.cls ≠ "java/lang/invoke/VarHandle") ∧ Cond.instantiable q.1.cls q.2 ∈ tables_1 ∧ Cond.privateMethod q.1 ∈ tables_1 ∧ Cond.instanceMethod q.1 ∈ tables_1
theorem lw_p0 : lw_okq (⟨"RaceWatch$RaceBook", "forget", "()V"⟩, 4) := ⟨⟨by decide +kernel, by decide +kernel⟩, List.mem_of_getElem? (i := 131) (by decide +kernel), List.mem_of_getElem? (i := 137) (by decide +kernel), List.mem_of_getElem? (i := 138) (by decide +kernel)⟩
theorem lw_p1 : lw_okq (⟨"RaceWatch$Program", "isFull", "()Z"⟩, 4) := ⟨⟨by decide +kernel, by decide +kernel⟩, List.mem_of_getElem? (i := 32) (by decide +kernel), List.mem_of_getElem? (i := 194) (by decide +kernel), List.mem_of_getElem? (i := 195) (by decide +kernel)⟩
theorem lw_p2 : lw_okq (⟨"RaceWatch$Program", "append", "(III)I"⟩, 4) := ⟨⟨by decide +kernel, by decide +kernel⟩, List.mem_of_getElem? (i := 32) (by decide +kernel), List.mem_of_getElem? (i := 204) (by decide +kernel), List.mem_of_getElem? (i := 205) (by decide +kernel)⟩
theorem lw_p3 : lw_okq (⟨"RaceWatch$Program", "forget", "()V"⟩, 4) := ⟨⟨by decide +kernel, by decide +kernel⟩, List.mem_of_getElem? (i := 32) (by decide +kernel), List.mem_of_getElem? (i := 212) (by decide +kernel), List.mem_of_getElem? (i := 213) (by decide +kernel)⟩
theorem lw_p4 : lw_okq (⟨"RaceWatch$Worker", "forget", "()V"⟩, 4) := ⟨⟨by decide +kernel, by decide +kernel⟩, List.mem_of_getElem? (i := 55) (by decide +kernel), List.mem_of_getElem? (i := 216) (by decide +kernel), List.mem_of_getElem? (i := 217) (by decide +kernel)⟩
theorem lw_p5 : lw_okq (⟨"RaceWatch$Clock", "forget", "()V"⟩, 1) := ⟨⟨by decide +kernel, by decide +kernel⟩, List.mem_of_getElem? (i := 61) (by decide +kernel), List.mem_of_getElem? (i := 220) (by decide +kernel), List.mem_of_getElem? (i := 221) (by decide +kernel)⟩
theorem lw_p6 : lw_okq (⟨"RaceWatch$Lock", "forget", "()V"⟩, 3) := ⟨⟨by decide +kernel, by decide +kernel⟩, List.mem_of_getElem? (i := 90) (by decide +kernel), List.mem_of_getElem? (i := 225) (by decide +kernel), List.mem_of_getElem? (i := 226) (by decide +kernel)⟩
theorem lw_p7 : lw_okq (⟨"RaceWatch$Trace", "forget", "()V"⟩, 3) := ⟨⟨by decide +kernel, by decide +kernel⟩, List.mem_of_getElem? (i := 113) (by decide +kernel), List.mem_of_getElem? (i := 231) (by decide +kernel), List.mem_of_getElem? (i := 232) (by decide +kernel)⟩
theorem lw_p8 : lw_okq (⟨"RaceWatch$Trace", "has", "(I)Z"⟩, 3) := ⟨⟨by decide +kernel, by decide +kernel⟩, List.mem_of_getElem? (i := 113) (by decide +kernel), List.mem_of_getElem? (i := 255) (by decide +kernel), List.mem_of_getElem? (i := 256) (by decide +kernel)⟩
theorem lw_p9 : lw_okq (⟨"RaceWatch$Trace", "isOrdered", "(II)Z"⟩, 3) := ⟨⟨by decide +kernel, by decide +kernel⟩, List.mem_of_getElem? (i := 113) (by decide +kernel), List.mem_of_getElem? (i := 263) (by decide +kernel), List.mem_of_getElem? (i := 264) (by decide +kernel)⟩
theorem lw_p10 : lw_okq (⟨"RaceWatch$Trace", "threadOf", "(I)I"⟩, 3) := ⟨⟨by decide +kernel, by decide +kernel⟩, List.mem_of_getElem? (i := 113) (by decide +kernel), List.mem_of_getElem? (i := 267) (by decide +kernel), List.mem_of_getElem? (i := 268) (by decide +kernel)⟩
theorem lw_p11 : lw_okq (⟨"RaceWatch", "ownBook", "()LRaceWatch$RaceBook;"⟩, 9) := ⟨⟨by decide +kernel, by decide +kernel⟩, List.mem_of_getElem? (i := 21) (by decide +kernel), List.mem_of_getElem? (i := 275) (by decide +kernel), List.mem_of_getElem? (i := 276) (by decide +kernel)⟩
theorem lw_p12 : lw_okq (⟨"RaceWatch", "bookOf", "(Z)LRaceWatch$RaceBook;"⟩, 9) := ⟨⟨by decide +kernel, by decide +kernel⟩, List.mem_of_getElem? (i := 21) (by decide +kernel), List.mem_of_getElem? (i := 279) (by decide +kernel), List.mem_of_getElem? (i := 280) (by decide +kernel)⟩
theorem lw_p13 : lw_okq (⟨"RaceWatch$RaceBook", "placesWithin", "(I)I"⟩, 4) := ⟨⟨by decide +kernel, by decide +kernel⟩, List.mem_of_getElem? (i := 131) (by decide +kernel), List.mem_of_getElem? (i := 291) (by decide +kernel), List.mem_of_getElem? (i := 292) (by decide +kernel)⟩
theorem lw_p14 : lw_okq (⟨"java/lang/Throwable", "fillInStackTrace", "(I)Ljava/lang/Throwable;"⟩, 6) := ⟨⟨by decide +kernel, by decide +kernel⟩, List.mem_of_getElem? (i := 353) (by decide +kernel), List.mem_of_getElem? (i := 351) (by decide +kernel), List.mem_of_getElem? (i := 352) (by decide +kernel)⟩
theorem lw_p15 : lw_okq (⟨"RaceWatch", "areBad", "()Z"⟩, 9) := ⟨⟨by decide +kernel, by decide +kernel⟩, List.mem_of_getElem? (i := 21) (by decide +kernel), List.mem_of_getElem? (i := 378) (by decide +kernel), List.mem_of_getElem? (i := 379) (by decide +kernel)⟩
def lw_privs_1 : List (MethodName × Nat) := [(⟨"RaceWatch$RaceBook", "forget", "()V"⟩, 4), (⟨"RaceWatch$Program", "isFull", "()Z"⟩, 4), (⟨"RaceWatch$Program", "append", "(III)I"⟩, 4), (⟨"RaceWatch$Program", "forget", "()V"⟩, 4), (⟨"RaceWatch$Worker", "forget", "()V"⟩, 4), (⟨"RaceWatch$Clock", "forget", "()V"⟩, 1), (⟨"RaceWatch$Lock", "forget", "()V"⟩, 3), (⟨"RaceWatch$Trace", "forget", "()V"⟩, 3), (⟨"RaceWatch$Trace", "has", "(I)Z"⟩, 3), (⟨"RaceWatch$Trace", "isOrdered", "(II)Z"⟩, 3), (⟨"RaceWatch$Trace", "threadOf", "(I)I"⟩, 3), (⟨"RaceWatch", "ownBook", "()LRaceWatch$RaceBook;"⟩, 9), (⟨"RaceWatch", "bookOf", "(Z)LRaceWatch$RaceBook;"⟩, 9), (⟨"RaceWatch$RaceBook", "placesWithin", "(I)I"⟩, 4), (⟨"java/lang/Throwable", "fillInStackTrace", "(I)Ljava/lang/Throwable;"⟩, 6), (⟨"RaceWatch", "areBad", "()Z"⟩, 9)]
theorem lw_r1 : ∀ q ∈ lw_privs_1, lw_okq q := List.forall_mem_cons.mpr ⟨lw_p0, List.forall_mem_cons.mpr ⟨lw_p1, List.forall_mem_cons.mpr ⟨lw_p2, List.forall_mem_cons.mpr ⟨lw_p3, List.forall_mem_cons.mpr ⟨lw_p4, List.forall_mem_cons.mpr ⟨lw_p5, List.forall_mem_cons.mpr ⟨lw_p6, List.forall_mem_cons.mpr ⟨lw_p7, List.forall_mem_cons.mpr ⟨lw_p8, List.forall_mem_cons.mpr ⟨lw_p9, List.forall_mem_cons.mpr ⟨lw_p10, List.forall_mem_cons.mpr ⟨lw_p11, List.forall_mem_cons.mpr ⟨lw_p12, List.forall_mem_cons.mpr ⟨lw_p13, List.forall_mem_cons.mpr ⟨lw_p14, List.forall_mem_cons.mpr ⟨lw_p15, fun _ h => absurd h List.not_mem_nil⟩⟩⟩⟩⟩⟩⟩⟩⟩⟩⟩⟩⟩⟩⟩⟩
theorem lw_p16 : lw_okq (⟨"RaceWatch$Program", "isBad", "(I)Z"⟩, 4) := ⟨⟨by decide +kernel, by decide +kernel⟩, List.mem_of_getElem? (i := 32) (by decide +kernel), List.mem_of_getElem? (i := 382) (by decide +kernel), List.mem_of_getElem? (i := 383) (by decide +kernel)⟩
theorem lw_p17 : lw_okq (⟨"RaceWatch", "instructions", "()I"⟩, 9) := ⟨⟨by decide +kernel, by decide +kernel⟩, List.mem_of_getElem? (i := 21) (by decide +kernel), List.mem_of_getElem? (i := 401) (by decide +kernel), List.mem_of_getElem? (i := 402) (by decide +kernel)⟩
theorem lw_p18 : lw_okq (⟨"RaceWatch", "doQuietly", "(III)V"⟩, 9) := ⟨⟨by decide +kernel, by decide +kernel⟩, List.mem_of_getElem? (i := 21) (by decide +kernel), List.mem_of_getElem? (i := 432) (by decide +kernel), List.mem_of_getElem? (i := 433) (by decide +kernel)⟩
theorem lw_p19 : lw_okq (⟨"RaceWatch$Worker", "goTo", "(II)V"⟩, 4) := ⟨⟨by decide +kernel, by decide +kernel⟩, List.mem_of_getElem? (i := 55) (by decide +kernel), List.mem_of_getElem? (i := 436) (by decide +kernel), List.mem_of_getElem? (i := 437) (by decide +kernel)⟩
theorem lw_p20 : lw_okq (⟨"RaceWatch", "isInfeasible", "(III)Z"⟩, 9) := ⟨⟨by decide +kernel, by decide +kernel⟩, List.mem_of_getElem? (i := 21) (by decide +kernel), List.mem_of_getElem? (i := 440) (by decide +kernel), List.mem_of_getElem? (i := 441) (by decide +kernel)⟩
theorem lw_p21 : lw_okq (⟨"RaceWatch$Lock", "isHeldBy", "(I)Z"⟩, 3) := ⟨⟨by decide +kernel, by decide +kernel⟩, List.mem_of_getElem? (i := 90) (by decide +kernel), List.mem_of_getElem? (i := 444) (by decide +kernel), List.mem_of_getElem? (i := 445) (by decide +kernel)⟩
theorem lw_p22 : lw_okq (⟨"RaceWatch$Trace", "isFull", "()Z"⟩, 3) := ⟨⟨by decide +kernel, by decide +kernel⟩, List.mem_of_getElem? (i := 113) (by decide +kernel), List.mem_of_getElem? (i := 463) (by decide +kernel), List.mem_of_getElem? (i := 464) (by decide +kernel)⟩
theorem lw_p23 : lw_okq (⟨"RaceWatch", "mustWait", "(III)Z"⟩, 9) := ⟨⟨by decide +kernel, by decide +kernel⟩, List.mem_of_getElem? (i := 21) (by decide +kernel), List.mem_of_getElem? (i := 467) (by decide +kernel), List.mem_of_getElem? (i := 468) (by decide +kernel)⟩
theorem lw_p24 : lw_okq (⟨"RaceWatch", "doEvent", "(III)V"⟩, 9) := ⟨⟨by decide +kernel, by decide +kernel⟩, List.mem_of_getElem? (i := 21) (by decide +kernel), List.mem_of_getElem? (i := 471) (by decide +kernel), List.mem_of_getElem? (i := 472) (by decide +kernel)⟩
theorem lw_p25 : lw_okq (⟨"RaceWatch$Clock", "tick", "(I)V"⟩, 1) := ⟨⟨by decide +kernel, by decide +kernel⟩, List.mem_of_getElem? (i := 61) (by decide +kernel), List.mem_of_getElem? (i := 479) (by decide +kernel), List.mem_of_getElem? (i := 480) (by decide +kernel)⟩
theorem lw_p26 : lw_okq (⟨"RaceWatch", "synchronise", "(III)V"⟩, 9) := ⟨⟨by decide +kernel, by decide +kernel⟩, List.mem_of_getElem? (i := 21) (by decide +kernel), List.mem_of_getElem? (i := 483) (by decide +kernel), List.mem_of_getElem? (i := 484) (by decide +kernel)⟩
theorem lw_p27 : lw_okq (⟨"RaceWatch$Lock", "take", "(ILRaceWatch$Clock;)V"⟩, 3) := ⟨⟨by decide +kernel, by decide +kernel⟩, List.mem_of_getElem? (i := 90) (by decide +kernel), List.mem_of_getElem? (i := 487) (by decide +kernel), List.mem_of_getElem? (i := 488) (by decide +kernel)⟩
theorem lw_p28 : lw_okq (⟨"RaceWatch$Clock", "learn", "(LRaceWatch$Clock;)V"⟩, 1) := ⟨⟨by decide +kernel, by decide +kernel⟩, List.mem_of_getElem? (i := 61) (by decide +kernel), List.mem_of_getElem? (i := 491) (by decide +kernel), List.mem_of_getElem? (i := 492) (by decide +kernel)⟩
theorem lw_p29 : lw_okq (⟨"RaceWatch$Lock", "letGo", "(LRaceWatch$Clock;)V"⟩, 3) := ⟨⟨by decide +kernel, by decide +kernel⟩, List.mem_of_getElem? (i := 90) (by decide +kernel), List.mem_of_getElem? (i := 498) (by decide +kernel), List.mem_of_getElem? (i := 499) (by decide +kernel)⟩
theorem lw_p30 : lw_okq (⟨"RaceWatch$Worker", "begin", "(LRaceWatch$Clock;I)V"⟩, 4) := ⟨⟨by decide +kernel, by decide +kernel⟩, List.mem_of_getElem? (i := 55) (by decide +kernel), List.mem_of_getElem? (i := 503) (by decide +kernel), List.mem_of_getElem? (i := 504) (by decide +kernel)⟩
theorem lw_p31 : lw_okq (⟨"RaceWatch$Trace", "append", "(ILRaceWatch$Clock;)I"⟩, 3) := ⟨⟨by decide +kernel, by decide +kernel⟩, List.mem_of_getElem? (i := 113) (by decide +kernel), List.mem_of_getElem? (i := 509) (by decide +kernel), List.mem_of_getElem? (i := 510) (by decide +kernel)⟩
def lw_privs_2 : List (MethodName × Nat) := [(⟨"RaceWatch$Program", "isBad", "(I)Z"⟩, 4), (⟨"RaceWatch", "instructions", "()I"⟩, 9), (⟨"RaceWatch", "doQuietly", "(III)V"⟩, 9), (⟨"RaceWatch$Worker", "goTo", "(II)V"⟩, 4), (⟨"RaceWatch", "isInfeasible", "(III)Z"⟩, 9), (⟨"RaceWatch$Lock", "isHeldBy", "(I)Z"⟩, 3), (⟨"RaceWatch$Trace", "isFull", "()Z"⟩, 3), (⟨"RaceWatch", "mustWait", "(III)Z"⟩, 9), (⟨"RaceWatch", "doEvent", "(III)V"⟩, 9), (⟨"RaceWatch$Clock", "tick", "(I)V"⟩, 1), (⟨"RaceWatch", "synchronise", "(III)V"⟩, 9), (⟨"RaceWatch$Lock", "take", "(ILRaceWatch$Clock;)V"⟩, 3), (⟨"RaceWatch$Clock", "learn", "(LRaceWatch$Clock;)V"⟩, 1), (⟨"RaceWatch$Lock", "letGo", "(LRaceWatch$Clock;)V"⟩, 3), (⟨"RaceWatch$Worker", "begin", "(LRaceWatch$Clock;I)V"⟩, 4), (⟨"RaceWatch$Trace", "append", "(ILRaceWatch$Clock;)I"⟩, 3)]
theorem lw_r2 : ∀ q ∈ lw_privs_2, lw_okq q := List.forall_mem_cons.mpr ⟨lw_p16, List.forall_mem_cons.mpr ⟨lw_p17, List.forall_mem_cons.mpr ⟨lw_p18, List.forall_mem_cons.mpr ⟨lw_p19, List.forall_mem_cons.mpr ⟨lw_p20, List.forall_mem_cons.mpr ⟨lw_p21, List.forall_mem_cons.mpr ⟨lw_p22, List.forall_mem_cons.mpr ⟨lw_p23, List.forall_mem_cons.mpr ⟨lw_p24, List.forall_mem_cons.mpr ⟨lw_p25, List.forall_mem_cons.mpr ⟨lw_p26, List.forall_mem_cons.mpr ⟨lw_p27, List.forall_mem_cons.mpr ⟨lw_p28, List.forall_mem_cons.mpr ⟨lw_p29, List.forall_mem_cons.mpr ⟨lw_p30, List.forall_mem_cons.mpr ⟨lw_p31, fun _ h => absurd h List.not_mem_nil⟩⟩⟩⟩⟩⟩⟩⟩⟩⟩⟩⟩⟩⟩⟩⟩
theorem lw_p32 : lw_okq (⟨"RaceWatch$RaceBook", "enter", "(LRaceWatch$Trace;IIZ)V"⟩, 4) := ⟨⟨by decide +kernel, by decide +kernel⟩, List.mem_of_getElem? (i := 131) (by decide +kernel), List.mem_of_getElem? (i := 522) (by decide +kernel), List.mem_of_getElem? (i := 523) (by decide +kernel)⟩
theorem lw_p33 : lw_okq (⟨"RaceWatch$RaceBook", "rivalOf", "(LRaceWatch$Trace;IIZ)I"⟩, 4) := ⟨⟨by decide +kernel, by decide +kernel⟩, List.mem_of_getElem? (i := 131) (by decide +kernel), List.mem_of_getElem? (i := 526) (by decide +kernel), List.mem_of_getElem? (i := 527) (by decide +kernel)⟩
theorem lw_p34 : lw_okq (⟨"RaceWatch$RaceBook", "looseRead", "(LRaceWatch$Trace;II)I"⟩, 4) := ⟨⟨by decide +kernel, by decide +kernel⟩, List.mem_of_getElem? (i := 131) (by decide +kernel), List.mem_of_getElem? (i := 531) (by decide +kernel), List.mem_of_getElem? (i := 532) (by decide +kernel)⟩
theorem lw_p35 : lw_okq (⟨"RaceWatchModel", "raise", "(I)I"⟩, 20) := ⟨⟨by decide +kernel, by decide +kernel⟩, List.mem_of_getElem? (i := 539) (by decide +kernel), List.mem_of_getElem? (i := 631) (by decide +kernel), List.mem_of_getElem? (i := 632) (by decide +kernel)⟩
theorem lw_p36 : lw_okq (⟨"RaceWatchModel", "isBad", "()Z"⟩, 20) := ⟨⟨by decide +kernel, by decide +kernel⟩, List.mem_of_getElem? (i := 539) (by decide +kernel), List.mem_of_getElem? (i := 635) (by decide +kernel), List.mem_of_getElem? (i := 636) (by decide +kernel)⟩
theorem lw_p37 : lw_okq (⟨"RaceWatchModel", "plain", "(II)V"⟩, 20) := ⟨⟨by decide +kernel, by decide +kernel⟩, List.mem_of_getElem? (i := 539) (by decide +kernel), List.mem_of_getElem? (i := 643) (by decide +kernel), List.mem_of_getElem? (i := 644) (by decide +kernel)⟩
theorem lw_p38 : lw_okq (⟨"RaceWatchModel", "go", "(II)V"⟩, 20) := ⟨⟨by decide +kernel, by decide +kernel⟩, List.mem_of_getElem? (i := 539) (by decide +kernel), List.mem_of_getElem? (i := 647) (by decide +kernel), List.mem_of_getElem? (i := 648) (by decide +kernel)⟩
theorem lw_p39 : lw_okq (⟨"RaceWatchModel", "note", "(III)V"⟩, 20) := ⟨⟨by decide +kernel, by decide +kernel⟩, List.mem_of_getElem? (i := 539) (by decide +kernel), List.mem_of_getElem? (i := 651) (by decide +kernel), List.mem_of_getElem? (i := 652) (by decide +kernel)⟩
theorem lw_p40 : lw_okq (⟨"RaceWatchModel", "leads", "(II)Z"⟩, 20) := ⟨⟨by decide +kernel, by decide +kernel⟩, List.mem_of_getElem? (i := 539) (by decide +kernel), List.mem_of_getElem? (i := 655) (by decide +kernel), List.mem_of_getElem? (i := 656) (by decide +kernel)⟩
theorem lw_p41 : lw_okq (⟨"RaceWatchModel", "join", "(II)V"⟩, 20) := ⟨⟨by decide +kernel, by decide +kernel⟩, List.mem_of_getElem? (i := 539) (by decide +kernel), List.mem_of_getElem? (i := 659) (by decide +kernel), List.mem_of_getElem? (i := 660) (by decide +kernel)⟩
theorem lw_p42 : lw_okq (⟨"RaceWatchModel", "spot", "(IZ)I"⟩, 20) := ⟨⟨by decide +kernel, by decide +kernel⟩, List.mem_of_getElem? (i := 539) (by decide +kernel), List.mem_of_getElem? (i := 663) (by decide +kernel), List.mem_of_getElem? (i := 664) (by decide +kernel)⟩
theorem lw_p43 : lw_okq (⟨"RaceWatchModel", "meets", "(IZ)Z"⟩, 20) := ⟨⟨by decide +kernel, by decide +kernel⟩, List.mem_of_getElem? (i := 539) (by decide +kernel), List.mem_of_getElem? (i := 667) (by decide +kernel), List.mem_of_getElem? (i := 668) (by decide +kernel)⟩
theorem lw_p44 : lw_okq (⟨"RaceWatchModel", "raceWith", "(IIZ)Z"⟩, 20) := ⟨⟨by decide +kernel, by decide +kernel⟩, List.mem_of_getElem? (i := 539) (by decide +kernel), List.mem_of_getElem? (i := 671) (by decide +kernel), List.mem_of_getElem? (i := 672) (by decide +kernel)⟩
theorem lw_p45 : lw_okq (⟨"RaceWatchModel", "isAccess", "(I)Z"⟩, 20) := ⟨⟨by decide +kernel, by decide +kernel⟩, List.mem_of_getElem? (i := 539) (by decide +kernel), List.mem_of_getElem? (i := 675) (by decide +kernel), List.mem_of_getElem? (i := 676) (by decide +kernel)⟩
theorem lw_p46 : lw_okq (⟨"RaceWatchModel", "isWrite", "(I)Z"⟩, 20) := ⟨⟨by decide +kernel, by decide +kernel⟩, List.mem_of_getElem? (i := 539) (by decide +kernel), List.mem_of_getElem? (i := 679) (by decide +kernel), List.mem_of_getElem? (i := 680) (by decide +kernel)⟩
theorem lw_p47 : lw_okq (⟨"RaceWatchModel", "isBefore", "(II)Z"⟩, 20) := ⟨⟨by decide +kernel, by decide +kernel⟩, List.mem_of_getElem? (i := 539) (by decide +kernel), List.mem_of_getElem? (i := 683) (by decide +kernel), List.mem_of_getElem? (i := 684) (by decide +kernel)⟩
def lw_privs_3 : List (MethodName × Nat) := [(⟨"RaceWatch$RaceBook", "enter", "(LRaceWatch$Trace;IIZ)V"⟩, 4), (⟨"RaceWatch$RaceBook", "rivalOf", "(LRaceWatch$Trace;IIZ)I"⟩, 4), (⟨"RaceWatch$RaceBook", "looseRead", "(LRaceWatch$Trace;II)I"⟩, 4), (⟨"RaceWatchModel", "raise", "(I)I"⟩, 20), (⟨"RaceWatchModel", "isBad", "()Z"⟩, 20), (⟨"RaceWatchModel", "plain", "(II)V"⟩, 20), (⟨"RaceWatchModel", "go", "(II)V"⟩, 20), (⟨"RaceWatchModel", "note", "(III)V"⟩, 20), (⟨"RaceWatchModel", "leads", "(II)Z"⟩, 20), (⟨"RaceWatchModel", "join", "(II)V"⟩, 20), (⟨"RaceWatchModel", "spot", "(IZ)I"⟩, 20), (⟨"RaceWatchModel", "meets", "(IZ)Z"⟩, 20), (⟨"RaceWatchModel", "raceWith", "(IIZ)Z"⟩, 20), (⟨"RaceWatchModel", "isAccess", "(I)Z"⟩, 20), (⟨"RaceWatchModel", "isWrite", "(I)Z"⟩, 20), (⟨"RaceWatchModel", "isBefore", "(II)Z"⟩, 20)]
theorem lw_r3 : ∀ q ∈ lw_privs_3, lw_okq q := List.forall_mem_cons.mpr ⟨lw_p32, List.forall_mem_cons.mpr ⟨lw_p33, List.forall_mem_cons.mpr ⟨lw_p34, List.forall_mem_cons.mpr ⟨lw_p35, List.forall_mem_cons.mpr ⟨lw_p36, List.forall_mem_cons.mpr ⟨lw_p37, List.forall_mem_cons.mpr ⟨lw_p38, List.forall_mem_cons.mpr ⟨lw_p39, List.forall_mem_cons.mpr ⟨lw_p40, List.forall_mem_cons.mpr ⟨lw_p41, List.forall_mem_cons.mpr ⟨lw_p42, List.forall_mem_cons.mpr ⟨lw_p43, List.forall_mem_cons.mpr ⟨lw_p44, List.forall_mem_cons.mpr ⟨lw_p45, List.forall_mem_cons.mpr ⟨lw_p46, List.forall_mem_cons.mpr ⟨lw_p47, fun _ h => absurd h List.not_mem_nil⟩⟩⟩⟩⟩⟩⟩⟩⟩⟩⟩⟩⟩⟩⟩⟩
theorem lw_p48 : lw_okq (⟨"RaceWatchModel", "partnerOf", "(IZ)I"⟩, 20) := ⟨⟨by decide +kernel, by decide +kernel⟩, List.mem_of_getElem? (i := 539) (by decide +kernel), List.mem_of_getElem? (i := 687) (by decide +kernel), List.mem_of_getElem? (i := 688) (by decide +kernel)⟩
def lw_privs_4 : List (MethodName × Nat) := [(⟨"RaceWatchModel", "partnerOf", "(IZ)I"⟩, 20)]
theorem lw_r4 : ∀ q ∈ lw_privs_4, lw_okq q := List.forall_mem_cons.mpr ⟨lw_p48, fun _ h => absurd h List.not_mem_nil⟩
def lw_privs : List (MethodName × Nat) := lw_privs_1 ++ (lw_privs_2 ++ (lw_privs_3 ++ (lw_privs_4)))
def lw_tbl : List Cond := k2_sels lw_privs ++ tables_1
theorem lw_privs_ok : ∀ q ∈ lw_privs, lw_okq q := by
  show ∀ q ∈ lw_privs_1 ++ (lw_privs_2 ++ (lw_privs_3 ++ (lw_privs_4))), lw_okq q
  exact List.forall_mem_append.mpr ⟨lw_r1, List.forall_mem_append.mpr ⟨lw_r2, List.forall_mem_append.mpr ⟨lw_r3, lw_r4⟩⟩⟩
end
section
def R_CK : String := "RaceWatch$Clock"
def T_CK : u_T := fun k => match k with
  | _ => ("RaceWatch$Clock", "counts", "[I", true)
def ty_CK : Nat → FieldType := fun k => match k with
  | _ => .array .int
theorem nm_CK : ∀ a, a < 1 → ∀ b, b < 1 → a ≠ b → (T_CK a).2.1 ≠ (T_CK b).2.1 := by decide +kernel
theorem tok_CK : ∀ k, k < 1 → parseFieldDescriptor (T_CK k).2.2.1 = some (ty_CK k) := by decide +kernel
def R_LK : String := "RaceWatch$Lock"
def T_LK : u_T := fun k => match k with
  | 0 => ("RaceWatch$Lock", "clock", "LRaceWatch$Clock;", true)
  | 1 => ("RaceWatch$Lock", "owner", "I", false)
  | _ => ("RaceWatch$Lock", "depth", "I", false)
def ty_LK : Nat → FieldType := fun k => match k with
  | 0 => .object "RaceWatch$Clock"
  | 1 => .int
  | _ => .int
theorem nm_LK : ∀ a, a < 3 → ∀ b, b < 3 → a ≠ b → (T_LK a).2.1 ≠ (T_LK b).2.1 := by decide +kernel
theorem tok_LK : ∀ k, k < 3 → parseFieldDescriptor (T_LK k).2.2.1 = some (ty_LK k) := by decide +kernel
def R_PG : String := "RaceWatch$Program"
def T_PG : u_T := fun k => match k with
  | 0 => ("RaceWatch$Program", "ops", "[I", true)
  | 1 => ("RaceWatch$Program", "as", "[I", true)
  | 2 => ("RaceWatch$Program", "bs", "[I", true)
  | _ => ("RaceWatch$Program", "size", "I", false)
def ty_PG : Nat → FieldType := fun k => match k with
  | 0 => .array .int
  | 1 => .array .int
  | 2 => .array .int
  | _ => .int
theorem nm_PG : ∀ a, a < 4 → ∀ b, b < 4 → a ≠ b → (T_PG a).2.1 ≠ (T_PG b).2.1 := by decide +kernel
theorem tok_PG : ∀ k, k < 4 → parseFieldDescriptor (T_PG k).2.2.1 = some (ty_PG k) := by decide +kernel
def R_BK : String := "RaceWatch$RaceBook"
def T_BK : u_T := fun k => match k with
  | 0 => ("RaceWatch$RaceBook", "raceAt", "[I", true)
  | 1 => ("RaceWatch$RaceBook", "partnerOf", "[I", true)
  | 2 => ("RaceWatch$RaceBook", "lastWrite", "[I", true)
  | _ => ("RaceWatch$RaceBook", "lastRead", "[I", true)
def ty_BK : Nat → FieldType := fun k => match k with
  | 0 => .array .int
  | 1 => .array .int
  | 2 => .array .int
  | _ => .array .int
theorem nm_BK : ∀ a, a < 4 → ∀ b, b < 4 → a ≠ b → (T_BK a).2.1 ≠ (T_BK b).2.1 := by decide +kernel
theorem tok_BK : ∀ k, k < 4 → parseFieldDescriptor (T_BK k).2.2.1 = some (ty_BK k) := by decide +kernel
def R_TR : String := "RaceWatch$Trace"
def T_TR : u_T := fun k => match k with
  | 0 => ("RaceWatch$Trace", "codes", "[I", true)
  | 1 => ("RaceWatch$Trace", "clocks", "[I", true)
  | _ => ("RaceWatch$Trace", "count", "I", false)
def ty_TR : Nat → FieldType := fun k => match k with
  | 0 => .array .int
  | 1 => .array .int
  | _ => .int
theorem nm_TR : ∀ a, a < 3 → ∀ b, b < 3 → a ≠ b → (T_TR a).2.1 ≠ (T_TR b).2.1 := by decide +kernel
theorem tok_TR : ∀ k, k < 3 → parseFieldDescriptor (T_TR k).2.2.1 = some (ty_TR k) := by decide +kernel
def R_WK : String := "RaceWatch$Worker"
def T_WK : u_T := fun k => match k with
  | 0 => ("RaceWatch$Worker", "clock", "LRaceWatch$Clock;", true)
  | 1 => ("RaceWatch$Worker", "phase", "I", false)
  | 2 => ("RaceWatch$Worker", "next", "I", false)
  | _ => ("RaceWatch$Worker", "register", "J", false)
def ty_WK : Nat → FieldType := fun k => match k with
  | 0 => .object "RaceWatch$Clock"
  | 1 => .int
  | 2 => .int
  | _ => .long
theorem nm_WK : ∀ a, a < 4 → ∀ b, b < 4 → a ≠ b → (T_WK a).2.1 ≠ (T_WK b).2.1 := by decide +kernel
theorem tok_WK : ∀ k, k < 4 → parseFieldDescriptor (T_WK k).2.2.1 = some (ty_WK k) := by decide +kernel
def R_RW : String := "RaceWatch"
def T_RW : u_T := fun k => match k with
  | 0 => ("RaceWatch", "programs", "[LRaceWatch$Program;", true)
  | 1 => ("RaceWatch", "workers", "[LRaceWatch$Worker;", true)
  | 2 => ("RaceWatch", "locks", "[LRaceWatch$Lock;", true)
  | 3 => ("RaceWatch", "volatiles", "[LRaceWatch$Clock;", true)
  | 4 => ("RaceWatch", "trace", "LRaceWatch$Trace;", true)
  | 5 => ("RaceWatch", "fineBook", "LRaceWatch$RaceBook;", true)
  | 6 => ("RaceWatch", "coarseBook", "LRaceWatch$RaceBook;", true)
  | 7 => ("RaceWatch", "started", "Z", false)
  | _ => ("RaceWatch", "startedCoarse", "Z", false)
def ty_RW : Nat → FieldType := fun k => match k with
  | 0 => .array (.object "RaceWatch$Program")
  | 1 => .array (.object "RaceWatch$Worker")
  | 2 => .array (.object "RaceWatch$Lock")
  | 3 => .array (.object "RaceWatch$Clock")
  | 4 => .object "RaceWatch$Trace"
  | 5 => .object "RaceWatch$RaceBook"
  | 6 => .object "RaceWatch$RaceBook"
  | 7 => .boolean
  | _ => .boolean
theorem nm_RW : ∀ a, a < 9 → ∀ b, b < 9 → a ≠ b → (T_RW a).2.1 ≠ (T_RW b).2.1 := by decide +kernel
theorem tok_RW : ∀ k, k < 9 → parseFieldDescriptor (T_RW k).2.2.1 = some (ty_RW k) := by decide +kernel
def R_MD : String := "RaceWatchModel"
def T_MD : u_T := fun k => match k with
  | 0 => ("RaceWatchModel", "thrown", "I", false)
  | 1 => ("RaceWatchModel", "started", "Z", false)
  | 2 => ("RaceWatchModel", "isCoarse", "Z", false)
  | 3 => ("RaceWatchModel", "many", "[I", true)
  | 4 => ("RaceWatchModel", "ops", "[I", true)
  | 5 => ("RaceWatchModel", "firsts", "[I", true)
  | 6 => ("RaceWatchModel", "seconds", "[I", true)
  | 7 => ("RaceWatchModel", "status", "[I", true)
  | 8 => ("RaceWatchModel", "place", "[I", true)
  | 9 => ("RaceWatchModel", "register", "[I", true)
  | 10 => ("RaceWatchModel", "owner", "[I", true)
  | 11 => ("RaceWatchModel", "times", "[I", true)
  | 12 => ("RaceWatchModel", "count", "I", false)
  | 13 => ("RaceWatchModel", "who", "[I", true)
  | 14 => ("RaceWatchModel", "op", "[I", true)
  | 15 => ("RaceWatchModel", "of", "[I", true)
  | 16 => ("RaceWatchModel", "hands", "[Z", true)
  | 17 => ("RaceWatchModel", "sets", "[J", true)
  | 18 => ("RaceWatchModel", "raced", "[I", true)
  | _ => ("RaceWatchModel", "partners", "[I", true)
def ty_MD : Nat → FieldType := fun k => match k with
  | 0 => .int
  | 1 => .boolean
  | 2 => .boolean
  | 3 => .array .int
  | 4 => .array .int
  | 5 => .array .int
  | 6 => .array .int
  | 7 => .array .int
  | 8 => .array .int
  | 9 => .array .int
  | 10 => .array .int
  | 11 => .array .int
  | 12 => .int
  | 13 => .array .int
  | 14 => .array .int
  | 15 => .array .int
  | 16 => .array .boolean
  | 17 => .array .long
  | 18 => .array .int
  | _ => .array .int
theorem nm_MD : ∀ a, a < 20 → ∀ b, b < 20 → a ≠ b → (T_MD a).2.1 ≠ (T_MD b).2.1 := by decide +kernel
theorem tok_MD : ∀ k, k < 20 → parseFieldDescriptor (T_MD k).2.2.1 = some (ty_MD k) := by decide +kernel
abbrev vwCl : List vw_C := [(R_CK, T_CK, 1), (R_LK, T_LK, 3), (R_PG, T_PG, 4), (R_BK, T_BK, 4), (R_TR, T_TR, 3), (R_WK, T_WK, 4), (R_RW, T_RW, 9), (R_MD, T_MD, 20)]
def R_LW : String := "RaceWatchLaw"
def R_AR : String := "java/util/Arrays"
def R_IN : String := "java/lang/Integer"
abbrev R_Program : String := R_PG
abbrev R_Worker : String := R_WK
abbrev R_Lock : String := R_LK
abbrev R_Clock : String := R_CK
abbrev cRW_init : ByteArray := prog_1_method_1_code
def yRW_init : MethodName := ⟨R_RW, "<init>", "()V"⟩
abbrev cPG_init : ByteArray := prog_4_method_1_code
def yPG_init : MethodName := ⟨R_PG, "<init>", "()V"⟩
abbrev cWK_init : ByteArray := prog_7_method_1_code
def yWK_init : MethodName := ⟨R_WK, "<init>", "()V"⟩
abbrev cCK_init : ByteArray := prog_2_method_1_code
def yCK_init : MethodName := ⟨R_CK, "<init>", "()V"⟩
abbrev cLK_init : ByteArray := prog_3_method_1_code
def yLK_init : MethodName := ⟨R_LK, "<init>", "()V"⟩
abbrev cTR_init : ByteArray := prog_6_method_1_code
def yTR_init : MethodName := ⟨R_TR, "<init>", "()V"⟩
abbrev cBK_init : ByteArray := prog_5_method_1_code
def yBK_init : MethodName := ⟨R_BK, "<init>", "()V"⟩
abbrev cBK_forget : ByteArray := prog_5_method_2_code
def yBK_forget : MethodName := ⟨R_BK, "forget", "()V"⟩
abbrev cAR_fill : ByteArray := prog_20_method_103_code
def yAR_fill : MethodName := ⟨R_AR, "fill", "([II)V"⟩
abbrev cRW_add : ByteArray := prog_1_method_2_code
def yRW_add : MethodName := ⟨R_RW, "add", "(IIII)I"⟩
abbrev cRW_isThread : ByteArray := prog_1_method_17_code
def yRW_isThread : MethodName := ⟨R_RW, "isThread", "(I)Z"⟩
abbrev cPG_isFull : ByteArray := prog_4_method_2_code
def yPG_isFull : MethodName := ⟨R_PG, "isFull", "()Z"⟩
abbrev cRW_isNamed : ByteArray := prog_1_method_23_code
def yRW_isNamed : MethodName := ⟨R_RW, "isNamed", "(II)Z"⟩
abbrev cRW_isVariable : ByteArray := prog_1_method_18_code
def yRW_isVariable : MethodName := ⟨R_RW, "isVariable", "(I)Z"⟩
abbrev cPG_append : ByteArray := prog_4_method_3_code
def yPG_append : MethodName := ⟨R_PG, "append", "(III)I"⟩
abbrev cRW_clear : ByteArray := prog_1_method_3_code
def yRW_clear : MethodName := ⟨R_RW, "clear", "()V"⟩
abbrev cPG_forget : ByteArray := prog_4_method_4_code
def yPG_forget : MethodName := ⟨R_PG, "forget", "()V"⟩
abbrev cWK_forget : ByteArray := prog_7_method_4_code
def yWK_forget : MethodName := ⟨R_WK, "forget", "()V"⟩
abbrev cCK_forget : ByteArray := prog_2_method_4_code
def yCK_forget : MethodName := ⟨R_CK, "forget", "()V"⟩
abbrev cLK_forget : ByteArray := prog_3_method_5_code
def yLK_forget : MethodName := ⟨R_LK, "forget", "()V"⟩
abbrev cTR_forget : ByteArray := prog_6_method_7_code
def yTR_forget : MethodName := ⟨R_TR, "forget", "()V"⟩
abbrev cRW_state : ByteArray := prog_1_method_6_code
def yRW_state : MethodName := ⟨R_RW, "state", "(I)J"⟩
abbrev cRW_holder : ByteArray := prog_1_method_7_code
def yRW_holder : MethodName := ⟨R_RW, "holder", "(I)I"⟩
abbrev cRW_events : ByteArray := prog_1_method_8_code
def yRW_events : MethodName := ⟨R_RW, "events", "()I"⟩
abbrev cRW_event : ByteArray := prog_1_method_9_code
def yRW_event : MethodName := ⟨R_RW, "event", "(I)I"⟩
abbrev cTR_has : ByteArray := prog_6_method_3_code
def yTR_has : MethodName := ⟨R_TR, "has", "(I)Z"⟩
abbrev cRW_before : ByteArray := prog_1_method_10_code
def yRW_before : MethodName := ⟨R_RW, "before", "(II)Z"⟩
abbrev cTR_isOrdered : ByteArray := prog_6_method_6_code
def yTR_isOrdered : MethodName := ⟨R_TR, "isOrdered", "(II)Z"⟩
abbrev cTR_threadOf : ByteArray := prog_6_method_5_code
def yTR_threadOf : MethodName := ⟨R_TR, "threadOf", "(I)I"⟩
abbrev cRW_race : ByteArray := prog_1_method_11_code
def yRW_race : MethodName := ⟨R_RW, "race", "(I)I"⟩
abbrev cRW_ownBook : ByteArray := prog_1_method_15_code
def yRW_ownBook : MethodName := ⟨R_RW, "ownBook", "()LRaceWatch$RaceBook;"⟩
abbrev cRW_bookOf : ByteArray := prog_1_method_16_code
def yRW_bookOf : MethodName := ⟨R_RW, "bookOf", "(Z)LRaceWatch$RaceBook;"⟩
abbrev cRW_partner : ByteArray := prog_1_method_12_code
def yRW_partner : MethodName := ⟨R_RW, "partner", "(I)I"⟩
abbrev cRW_races : ByteArray := prog_1_method_13_code
def yRW_races : MethodName := ⟨R_RW, "races", "()I"⟩
abbrev cBK_placesWithin : ByteArray := prog_5_method_6_code
def yBK_placesWithin : MethodName := ⟨R_BK, "placesWithin", "(I)I"⟩
abbrev cIN_bitCount : ByteArray := prog_14_method_49_code
def yIN_bitCount : MethodName := ⟨R_IN, "bitCount", "(I)I"⟩
abbrev cRW_again : ByteArray := prog_1_method_14_code
def yRW_again : MethodName := ⟨R_RW, "again", "(IZ)I"⟩
abbrev cLW_start : ByteArray := method_3_code
def yLW_start : MethodName := ⟨R_LW, "start", "(LRaceWatch;Z[J)I"⟩
abbrev cRW_start : ByteArray := prog_1_method_4_code
def yRW_start : MethodName := ⟨R_RW, "start", "(Z)I"⟩
abbrev cRW_areBad : ByteArray := prog_1_method_24_code
def yRW_areBad : MethodName := ⟨R_RW, "areBad", "()Z"⟩
abbrev cPG_isBad : ByteArray := prog_4_method_5_code
def yPG_isBad : MethodName := ⟨R_PG, "isBad", "(I)Z"⟩
abbrev cRW_instructions : ByteArray := prog_1_method_25_code
def yRW_instructions : MethodName := ⟨R_RW, "instructions", "()I"⟩
abbrev cLW_step : ByteArray := method_4_code
def yLW_step : MethodName := ⟨R_LW, "step", "(LRaceWatch;I[J)I"⟩
abbrev cRW_step : ByteArray := prog_1_method_5_code
def yRW_step : MethodName := ⟨R_RW, "step", "(I)I"⟩
abbrev cRW_isEvent : ByteArray := prog_1_method_19_code
def yRW_isEvent : MethodName := ⟨R_RW, "isEvent", "(I)Z"⟩
abbrev cRW_doQuietly : ByteArray := prog_1_method_28_code
def yRW_doQuietly : MethodName := ⟨R_RW, "doQuietly", "(III)V"⟩
abbrev cWK_goTo : ByteArray := prog_7_method_3_code
def yWK_goTo : MethodName := ⟨R_WK, "goTo", "(II)V"⟩
abbrev cRW_isInfeasible : ByteArray := prog_1_method_26_code
def yRW_isInfeasible : MethodName := ⟨R_RW, "isInfeasible", "(III)Z"⟩
abbrev cLK_isHeldBy : ByteArray := prog_3_method_2_code
def yLK_isHeldBy : MethodName := ⟨R_LK, "isHeldBy", "(I)Z"⟩
abbrev cTR_isFull : ByteArray := prog_6_method_2_code
def yTR_isFull : MethodName := ⟨R_TR, "isFull", "()Z"⟩
abbrev cRW_mustWait : ByteArray := prog_1_method_27_code
def yRW_mustWait : MethodName := ⟨R_RW, "mustWait", "(III)Z"⟩
abbrev cRW_doEvent : ByteArray := prog_1_method_29_code
def yRW_doEvent : MethodName := ⟨R_RW, "doEvent", "(III)V"⟩
abbrev cRW_isArrayAccess : ByteArray := prog_1_method_20_code
def yRW_isArrayAccess : MethodName := ⟨R_RW, "isArrayAccess", "(I)Z"⟩
abbrev cCK_tick : ByteArray := prog_2_method_2_code
def yCK_tick : MethodName := ⟨R_CK, "tick", "(I)V"⟩
abbrev cRW_synchronise : ByteArray := prog_1_method_30_code
def yRW_synchronise : MethodName := ⟨R_RW, "synchronise", "(III)V"⟩
abbrev cLK_take : ByteArray := prog_3_method_3_code
def yLK_take : MethodName := ⟨R_LK, "take", "(ILRaceWatch$Clock;)V"⟩
abbrev cCK_learn : ByteArray := prog_2_method_3_code
def yCK_learn : MethodName := ⟨R_CK, "learn", "(LRaceWatch$Clock;)V"⟩
abbrev cLK_letGo : ByteArray := prog_3_method_4_code
def yLK_letGo : MethodName := ⟨R_LK, "letGo", "(LRaceWatch$Clock;)V"⟩
abbrev cWK_begin : ByteArray := prog_7_method_2_code
def yWK_begin : MethodName := ⟨R_WK, "begin", "(LRaceWatch$Clock;I)V"⟩
abbrev cTR_append : ByteArray := prog_6_method_4_code
def yTR_append : MethodName := ⟨R_TR, "append", "(ILRaceWatch$Clock;)I"⟩
abbrev cRW_isAccess : ByteArray := prog_1_method_22_code
def yRW_isAccess : MethodName := ⟨R_RW, "isAccess", "(I)Z"⟩
abbrev cRW_isWrite : ByteArray := prog_1_method_21_code
def yRW_isWrite : MethodName := ⟨R_RW, "isWrite", "(I)Z"⟩
abbrev cBK_enter : ByteArray := prog_5_method_3_code
def yBK_enter : MethodName := ⟨R_BK, "enter", "(LRaceWatch$Trace;IIZ)V"⟩
abbrev cBK_rivalOf : ByteArray := prog_5_method_4_code
def yBK_rivalOf : MethodName := ⟨R_BK, "rivalOf", "(LRaceWatch$Trace;IIZ)I"⟩
abbrev cBK_looseRead : ByteArray := prog_5_method_5_code
def yBK_looseRead : MethodName := ⟨R_BK, "looseRead", "(LRaceWatch$Trace;II)I"⟩
abbrev cMD_init : ByteArray := prog_9_method_1_code
def yMD_init : MethodName := ⟨R_MD, "<init>", "()V"⟩
abbrev cMD_clear : ByteArray := prog_9_method_7_code
def yMD_clear : MethodName := ⟨R_MD, "clear", "()V"⟩
abbrev cMD_thrown : ByteArray := prog_9_method_2_code
def yMD_thrown : MethodName := ⟨R_MD, "thrown", "()I"⟩
abbrev cMD_add : ByteArray := prog_9_method_6_code
def yMD_add : MethodName := ⟨R_MD, "add", "(IIII)I"⟩
abbrev cMD_within : ByteArray := prog_9_method_4_code
def yMD_within : MethodName := ⟨R_MD, "within", "(II)Z"⟩
abbrev cMD_names : ByteArray := prog_9_method_5_code
def yMD_names : MethodName := ⟨R_MD, "names", "(II)Z"⟩
abbrev cMD_start : ByteArray := prog_9_method_9_code
def yMD_start : MethodName := ⟨R_MD, "start", "(Z)I"⟩
abbrev cMD_raise : ByteArray := prog_9_method_3_code
def yMD_raise : MethodName := ⟨R_MD, "raise", "(I)I"⟩
abbrev cMD_isBad : ByteArray := prog_9_method_8_code
def yMD_isBad : MethodName := ⟨R_MD, "isBad", "()Z"⟩
abbrev cMD_step : ByteArray := prog_9_method_10_code
def yMD_step : MethodName := ⟨R_MD, "step", "(I)I"⟩
abbrev cMD_plain : ByteArray := prog_9_method_12_code
def yMD_plain : MethodName := ⟨R_MD, "plain", "(II)V"⟩
abbrev cMD_go : ByteArray := prog_9_method_11_code
def yMD_go : MethodName := ⟨R_MD, "go", "(II)V"⟩
abbrev cMD_note : ByteArray := prog_9_method_13_code
def yMD_note : MethodName := ⟨R_MD, "note", "(III)V"⟩
abbrev cMD_leads : ByteArray := prog_9_method_14_code
def yMD_leads : MethodName := ⟨R_MD, "leads", "(II)Z"⟩
abbrev cMD_join : ByteArray := prog_9_method_15_code
def yMD_join : MethodName := ⟨R_MD, "join", "(II)V"⟩
abbrev cMD_spot : ByteArray := prog_9_method_19_code
def yMD_spot : MethodName := ⟨R_MD, "spot", "(IZ)I"⟩
abbrev cMD_meets : ByteArray := prog_9_method_21_code
def yMD_meets : MethodName := ⟨R_MD, "meets", "(IZ)Z"⟩
abbrev cMD_raceWith : ByteArray := prog_9_method_20_code
def yMD_raceWith : MethodName := ⟨R_MD, "raceWith", "(IIZ)Z"⟩
abbrev cMD_isAccess : ByteArray := prog_9_method_17_code
def yMD_isAccess : MethodName := ⟨R_MD, "isAccess", "(I)Z"⟩
abbrev cMD_isWrite : ByteArray := prog_9_method_18_code
def yMD_isWrite : MethodName := ⟨R_MD, "isWrite", "(I)Z"⟩
abbrev cMD_isBefore : ByteArray := prog_9_method_16_code
def yMD_isBefore : MethodName := ⟨R_MD, "isBefore", "(II)Z"⟩
abbrev cMD_partnerOf : ByteArray := prog_9_method_22_code
def yMD_partnerOf : MethodName := ⟨R_MD, "partnerOf", "(IZ)I"⟩
abbrev cMD_state : ByteArray := prog_9_method_23_code
def yMD_state : MethodName := ⟨R_MD, "state", "(I)J"⟩
abbrev cMD_holder : ByteArray := prog_9_method_24_code
def yMD_holder : MethodName := ⟨R_MD, "holder", "(I)I"⟩
abbrev cMD_events : ByteArray := prog_9_method_25_code
def yMD_events : MethodName := ⟨R_MD, "events", "()I"⟩
abbrev cMD_event : ByteArray := prog_9_method_26_code
def yMD_event : MethodName := ⟨R_MD, "event", "(I)I"⟩
abbrev cMD_before : ByteArray := prog_9_method_27_code
def yMD_before : MethodName := ⟨R_MD, "before", "(II)Z"⟩
abbrev cMD_race : ByteArray := prog_9_method_28_code
def yMD_race : MethodName := ⟨R_MD, "race", "(I)I"⟩
abbrev cMD_partner : ByteArray := prog_9_method_29_code
def yMD_partner : MethodName := ⟨R_MD, "partner", "(I)I"⟩
abbrev cMD_races : ByteArray := prog_9_method_30_code
def yMD_races : MethodName := ⟨R_MD, "races", "()I"⟩
abbrev cMD_again : ByteArray := prog_9_method_31_code
def yMD_again : MethodName := ⟨R_MD, "again", "(IZ)I"⟩
end
section
/-! FRAMEWORK: worlds as functions: cell k of n lies at ad k and holds E k -/
def wW (n : Nat) (ad : Nat → Nat) (E : Nat → va_E) : va_W := (List.range n).map (fun k => (ad k, E k))
theorem wW_get {n : Nat} {ad : Nat → Nat} {E : Nat → va_E} {k : Nat} {e : va_E} (hk : k < n) (he : E k = e) : (wW n ad E)[k]? = some (ad k, e) := by
  subst he
  simp [wW, List.getElem?_map, List.getElem?_range hk]
theorem wW_inv {n : Nat} {ad : Nat → Nat} {E : Nat → va_E} {k : Nat} {q : Nat × va_E} (h : (wW n ad E)[k]? = some q) : k < n ∧ q = (ad k, E k) := by
  by_cases hk : k < n
  · rw [wW_get hk rfl] at h
    exact ⟨hk, (Option.some.inj h).symm⟩
  · have hl : (wW n ad E).length = n := by simp [wW]
    rw [List.getElem?_eq_none (by omega)] at h
    cases h
theorem wW_set {n : Nat} {ad : Nat → Nat} {E : Nat → va_E} {k : Nat} {e : va_E} : (wW n ad E).set k (ad k, e) = wW n ad (va_up E k e) := by
  apply List.ext_getElem?
  intro j
  have hl : ∀ E' : Nat → va_E, (wW n ad E').length = n := fun E' => by simp [wW]
  by_cases hj : j < n
  · rw [wW_get hj rfl]
    by_cases hjk : j = k
    · subst hjk
      rw [List.getElem?_set_self (by rw [hl]; exact hj), va_up_self]
    · rw [List.getElem?_set_ne (Ne.symm hjk), wW_get hj rfl, va_up_ne _ _ hjk]
  · rw [List.getElem?_eq_none (by rw [List.length_set, hl]; omega), List.getElem?_eq_none (by rw [hl]; omega)]
theorem wW_D {A : Nat → Prop} {n : Nat} {ad : Nat → Nat} {E E' : Nat → va_E} (h : va_D A (wW n ad E)) : va_D A (wW n ad E') := by
  refine ⟨fun i j x y hi hj hxy => ?_, fun k q hk => ?_⟩
  · obtain ⟨h1, rfl⟩ := wW_inv hi
    obtain ⟨h2, rfl⟩ := wW_inv hj
    exact h.1 i j _ _ (wW_get h1 rfl) (wW_get h2 rfl) hxy
  · obtain ⟨h1, rfl⟩ := wW_inv hk
    exact h.2 k (ad k, E k) (wW_get h1 rfl)
theorem wW_inj {A : Nat → Prop} {n : Nat} {ad : Nat → Nat} {E : Nat → va_E} (h : va_D A (wW n ad E)) {i j : Nat} (hi : i < n) (hj : j < n) (e : ad i = ad j) : i = j := h.1 i j _ _ (wW_get hi rfl) (wW_get hj rfl) e
theorem wW_in {A : Nat → Prop} {n : Nat} {ad : Nat → Nat} {E : Nat → va_E} (h : va_D A (wW n ad E)) {i : Nat} (hi : i < n) : A (ad i) := h.2 i _ (wW_get hi rfl)
theorem wW_cut {D : va_G} {cl : List vw_C} {n m : Nat} {ad : Nat → Nat} {E : Nat → va_E} {H : Heap} {f : Nat → Nat} (hP : va_P D cl (wW n ad E) H) (hf : ∀ k, k < m → f k < n) : va_P D cl (wW m (fun k => ad (f k)) (fun k => E (f k))) H := by
  intro k q hk
  obtain ⟨h1, rfl⟩ := wW_inv hk
  exact hP (f k) _ (wW_get (hf k h1) rfl)
theorem wW_cutD {A : Nat → Prop} {n m : Nat} {ad : Nat → Nat} {E : Nat → va_E} {f : Nat → Nat} (hD : va_D A (wW n ad E)) (hf : ∀ k, k < m → f k < n) (hi : ∀ i j, i < m → j < m → f i = f j → i = j) : va_D A (wW m (fun k => ad (f k)) (fun k => E (f k))) := by
  refine ⟨fun i j x y hx hy hxy => ?_, fun k q hk => ?_⟩
  · obtain ⟨h1, rfl⟩ := wW_inv hx
    obtain ⟨h2, rfl⟩ := wW_inv hy
    exact hi i j h1 h2 (wW_inj hD (hf i h1) (hf j h2) hxy)
  · obtain ⟨h1, rfl⟩ := wW_inv hk
    exact wW_in hD (hf k h1)
theorem wW_free {A : Nat → Prop} {n m : Nat} {ad : Nat → Nat} {E E1 : Nat → va_E} {f : Nat → Nat} {H0 H : Heap} {locs : List Loc} (hD : va_D A (wW n ad E)) (hS : va_S A H0 H locs) (hA : ∀ q, H0.size ≤ q → A q) (hf : ∀ k, k < m → f k < n) : ∀ q, va_A (wW m (fun k => ad (f k)) E1) H.size q → A q := by
  intro q h
  rcases h with ⟨k, e, h⟩ | h
  · obtain ⟨h1, h2⟩ := wW_inv h
    have h3 : q = ad (f k) := congrArg Prod.fst h2
    rw [h3]
    exact wW_in hD (hf k h1)
  · exact hA q (Nat.le_trans hS.1 h)
/-- the world behind a call: the callee's cells as it left them, the others as they were -/
def wU (m : Nat) (f : Nat → Nat) (E E1 : Nat → va_E) : Nat → va_E := fun j => match (List.range m).find? (fun k => f k == j) with
  | some k => E1 k
  | none => E j
theorem wU_at {m : Nat} {f : Nat → Nat} {E E1 : Nat → va_E} (hi : ∀ i j, i < m → j < m → f i = f j → i = j) {k : Nat} (hk : k < m) : wU m f E E1 (f k) = E1 k := by
  unfold wU
  cases hfd : (List.range m).find? (fun x => f x == f k) with
  | none =>
    have := List.find?_eq_none.mp hfd k (List.mem_range.mpr hk)
    simp at this
  | some j =>
    have h1 := List.find?_some hfd
    have h2 := List.mem_range.mp (List.mem_of_find?_eq_some hfd)
    have h3 : f j = f k := by simpa using h1
    rw [hi j k h2 hk h3]
theorem wU_off {m : Nat} {f : Nat → Nat} {E E1 : Nat → va_E} {j : Nat} (h : ∀ k, k < m → f k ≠ j) : wU m f E E1 j = E j := by
  unfold wU
  cases hfd : (List.range m).find? (fun x => f x == j) with
  | none => rfl
  | some k =>
    have h1 := List.find?_some hfd
    have h2 := List.mem_range.mp (List.mem_of_find?_eq_some hfd)
    exact absurd (by simpa using h1) (h k h2)
theorem wW_back {A : Nat → Prop} {D : va_G} {cl : List vw_C} {n m : Nat} {ad : Nat → Nat} {E E1 : Nat → va_E} {H H1 : Heap} {f : Nat → Nat} (hP : va_P D cl (wW n ad E) H) (hD : va_D A (wW n ad E)) (hf : ∀ k, k < m → f k < n) (hi : ∀ i j, i < m → j < m → f i = f j → i = j)
    (hk : ∀ q : Nat, q < H.size → ¬ va_A (wW m (fun k => ad (f k)) (fun k => E (f k))) H.size q → H1[q]? = H[q]?) (hP1 : va_P D cl (wW m (fun k => ad (f k)) E1) H1) : va_P D cl (wW n ad (wU m f E E1)) H1 := by
  intro k q hq
  obtain ⟨h1, rfl⟩ := wW_inv hq
  by_cases hc : ∃ j, j < m ∧ f j = k
  · obtain ⟨j, hj, rfl⟩ := hc
    rw [wU_at hi hj]
    exact hP1 j _ (wW_get hj rfl)
  · rw [wU_off (fun j hj he => hc ⟨j, hj, he⟩)]
    have h2 := hP k _ (wW_get h1 rfl)
    refine h2.kept (hk (ad k) h2.lt ?_)
    intro ha
    rcases ha with ⟨k2, e, h⟩ | h
    · obtain ⟨h3, h4⟩ := wW_inv h
      have h5 : ad k = ad (f k2) := congrArg Prod.fst h4
      exact hc ⟨k2, h3, (wW_inj hD h1 (hf k2 h3) h5).symm⟩
    · have := h2.lt
      have h' : H.size ≤ ad k := h
      omega
end
section
/-! CALLS THAT RETURN OR THROW -/
def TEnd (first t : State) (L : List Loc) (k n : Nat) : Prop := first.WarmedH t.vm ∧ first.sameButNew ({ t with vm := first.vm } : State) L k n
def MetX (l : Launch) (y : MethodName) (ws : List Cond) (rm : Room) (Pc : Array Value → State → Prop) (Qc : Array Value → State → Outcome → State → Prop) (mc ms : Nat) (free : Addr → Prop) : Prop :=
  MetFree l y (headSpec ws rm) Pc (fun _ _ _ _ _ => True) (fun a st o t => Qc a st o t ∧ ∃ L, TEnd st t L mc ms ∧ ∀ q ∈ L, free q.base)
def XQ (below : List Frame) (Qc : Array Value → State → Outcome → State → Prop) (a : Array Value) (s : State) (mc ms : Nat) (free : Addr → Prop) : State → Prop := fun t =>
  ∃ o, t.status = .running ∧ Ended t below o ∧ Qc a s o t ∧ ∃ L, TEnd s t L mc ms ∧ ∀ q ∈ L, free q.base
theorem XQ.ofM {below : List Frame} {Qc : Array Value → State → Outcome → State → Prop} {a : Array Value} {s t : State} {mc ms : Nat} {free : Addr → Prop} (h : MQ below Qc a s mc ms free t) : XQ below Qc a s mc ms free t := by
  obtain ⟨o, h1, h2, h3, L, h4, h5⟩ := h
  exact ⟨o, h1, h2, h3, L, ⟨h4.2.1, h4.2.2⟩, h5⟩
theorem W.mono {p : Program} {l : Launch} {e : Env} {R : Room} {s : State} {m : MethodId} {args : Array Value} {below : List Frame} {meth : Method} {c : Code} {H : Heap} {locs : List Loc} {cells slots : Nat} {Q Q' : State → Prop} {g : JFrame}
    (hq : ∀ t, Q t → Q' t) (k : W p l e R s m args below meth c H locs cells slots Q g) : W p l e R s m args below meth c H locs cells slots Q' g := by
  intro T hT X
  obtain ⟨t, h1, h2⟩ := k T hT X
  exact ⟨t, h1, hq t h2⟩
theorem MetX.ofW {l : Launch} {y : MethodName} {ws : List Cond} {rm : Room} {Pc : Array Value → State → Prop} {Qc : Array Value → State → Outcome → State → Prop} {mc ms : Nat} {free : Addr → Prop} {cc : ByteArray} {maxL : Nat} {ret : Option FieldType}
    (hy : plainName y.cls = true) (hw : Cond.code y cc maxL ret ∈ ws)
    (body : ∀ p e s m args below meth c s₁, BodyLoose p l y (headSpec ws rm) cc maxL ret e s m args below meth c s₁ → c.maxLocals = maxL → Pc args s →
      W p l e (headSpec ws rm).room s m args below meth c s.heap [] 0 0 (XQ below Qc args s mc ms free) (entryFrame m args maxL)) : MetX l y ws rm Pc Qc mc ms free := by
  refine MetFree.of_bodyS (code := cc) (maxLocals := maxL) (ret := ret) hy ?_ ?_
  · intro args s m h hn
    obtain ⟨meth, c, h1, h2, h3, h4, h5, h6, -, -⟩ := Cond.code_spec hn (atoms_spec (ws := ws) h _ hw)
    exact ⟨meth, c, h1, h2, h3, h4, h5, h6⟩
  · intro p e s m args below meth c s₁ B hml hP _
    have hh0 : s₁.heap = s.heap := by rw [B.state]; rfl
    obtain ⟨t, a1, o, b1, b2, b3⟩ := body p e s m args below meth c s₁ B hml hP s₁ hh0 (Stand.of_body B)
    exact ⟨t, o, a1, b1, b2, ⟨b3.1, b3.2⟩⟩
/-- the call of a method with such a contract, from a point of a walk -/
theorem MetX.go {l : Launch} {R : Room} {p : Program} {e : Env} {below : List Frame} {s : State} {sargs : Array Value} {y : MethodName} {len W : Nat} {ws : List Cond} {rm : Room} {Pc : Array Value → State → Prop} {Qc : Array Value → State → Outcome → State → Prop} {mc ms : Nat} {free : Addr → Prop} {bytes : ByteArray} {maxL : Nat} {ret : Option FieldType}
    (hM : MetX l y ws rm Pc Qc mc ms free) (hrc : rm.cells = mc) (hrs : rm.slots = ms) (hframes : rm.frames + 1 ≤ R.frames) (hlocals : W + (maxL + 11) + rm.locals ≤ R.locals)
    {m : MethodId} {meth : Method} {c : Code} {U : State} {Ls : List Loc} {c0 s0 : Nat} (X : Stand p l e R s m sargs below meth c U Ls c0 s0) {g : JFrame} {ig : Instr} {mk : MethodId} {a : Array Value}
    (hg : g.method = m) (hsize : g.locals.size = c.maxLocals) (hdg : decode c.code g.pc = .ok (ig, len)) (hW : 2 * g.monitorRoom + (g.stack.map fun v => v.category).sum ≤ W) (hn : U.methodNamed? y = some mk)
    (h1 : (headSpec ws rm).pre.before a U = true) (h2 : (Cond.code y bytes maxL ret).before a U = true) (h3 : (Cond.initialized y.cls).before a U = true) (h4 : c0 + mc ≤ R.cells) (h5 : s0 + ms ≤ R.slots) (hP : Pc a (U.calling g mk a)) :
    ∃ (o : Outcome) (t B : State) (L : List Loc), Stand p l e R s m sargs below meth c B (Ls ++ L) (c0 + mc) (s0 + ms) ∧ B.heap = t.heap ∧ B.vm = t.vm ∧ Qc a (U.calling g mk a) o t ∧ (∀ q ∈ L, free q.base) ∧
      (∀ v, o = .returned v → Steps p.tables e below (doInvoke e (U.setTop g) [] mk a).1 (B.setTop { g with pc := g.pc + len, stack := v.toList ++ g.stack })) ∧
      (∀ x, o = .threw x → Steps p.tables e below (doInvoke e (U.setTop g) [] mk a).1 ((B.setTop g).pushFrame (.throwing x))) := by
  obtain ⟨methY, cY, hmY, hcY, -, hlY, -, -, -, -⟩ := Cond.code_spec hn h2
  obtain ⟨kY, hkY, -⟩ := className_of_methodNamed hn
  have hinitY : kY.init = .initialized := Cond.initialized_spec (findClass_of_methodNamed hn) hkY h3
  have h : At U g.method c below := by rw [hg]; exact X.here
  have happ : (headSpec ws rm).appliesLoose y e.platform (U.calling g mk a) = true :=
    Spec.appliesLoose_calling (g := g) h hdg hn hkY hinitY
      (X.room_calling (g := g) (R' := (headSpec ws rm).room) hsize hmY hcY hframes (by rw [hlY]; show _ + _ + rm.locals ≤ _; omega) (by show c0 + rm.cells ≤ _; omega) (by show s0 + rm.slots ≤ _; omega)) h1
  obtain ⟨mid, hmid⟩ := h.above
  have hfr : (U.setTop g).frames = (.java g :: mid) ++ below := by rw [State.frames_setTop' g h.top, hmid]; rfl
  obtain ⟨o, s₂, hsteps, -, hend, hq⟩ := Steps.callFree hM p X.admits X.cas X.clock (acts := []) hfr happ hP trivial
  rw [State.frames_setTop' g h.top] at hend
  have hq : Qc a (U.calling g mk a) o s₂ ∧ ∃ L, TEnd (U.calling g mk a) s₂ L mc ms ∧ ∀ q ∈ L, free q.base := hq
  obtain ⟨hq', L, hfe, hL⟩ := hq
  obtain ⟨hW₂, e2, q2, q3, q4, q5, q6⟩ := id hfe
  have e3 : s₂ = ({ (U.calling g mk a).setFrames s₂.frames with heap := s₂.heap, slotsUsed := s₂.slotsUsed } : State).setVm s₂.vm := by
    have : s₂ = ({ s₂ with vm := (U.calling g mk a).vm } : State).setVm s₂.vm := rfl
    rw [e2] at this
    exact this
  have hW' : U.WarmedH s₂.vm := hW₂
  obtain ⟨g₀, hg0⟩ := Option.isSome_iff_exists.mp h.top
  obtain ⟨r, hr⟩ := State.topJava?_eq_some.mp hg0
  have hr' : (({ U with heap := s₂.heap, slotsUsed := s₂.slotsUsed } : State).setVm s₂.vm).frames = .java g₀ :: r := hr
  have hsame : U.sameButNew ({ U with heap := s₂.heap, slotsUsed := s₂.slotsUsed } : State) L mc ms := by
    refine ⟨?_, q2, q3, q4, q5, q6⟩
    obtain ⟨t, ht, -⟩ := State.frames_cons hr
    show ({ U with heap := s₂.heap, slotsUsed := s₂.slotsUsed } : State) = { U.setFrames U.frames with heap := s₂.heap, slotsUsed := s₂.slotsUsed }
    rw [State.setFrames_self ht]
  subst hg
  refine ⟨o, s₂, (({ U with heap := s₂.heap, slotsUsed := s₂.slotsUsed } : State).setVm s₂.vm), L,
    ⟨X.admits, X.cas, X.clock, X.frames, X.room, X.hears, X.method, X.code, (X.here.setHeapUsed s₂.heap s₂.slotsUsed).setVm hW'.alike, X.tail, State.WarmedH.trans X.warmed hW', X.limits, X.bytes, X.same.trans (hsame.setVm s.vm)⟩,
    rfl, rfl, hq', hL, ?_, ?_⟩
  · intro v ho
    subst ho
    obtain ⟨c₂, i₂, len₂, hc₂, hd₂, hf₂⟩ := hend
    have hcc : c₂ = c := by
      have h1 : s₂.code? g.method = U.code? g.method := by
        rw [State.code?_eq, State.code?_eq, hW'.alike.method?]
      exact Option.some.inj (hc₂.symm.trans (h1.trans h.code))
    subst hcc
    have hlen : len₂ = len := by rw [hdg] at hd₂; cases hd₂; rfl
    subst hlen
    have hs₂ : s₂ = (({ U with heap := s₂.heap, slotsUsed := s₂.slotsUsed } : State).setVm s₂.vm).setTop { g with pc := g.pc + len₂, stack := v.toList ++ g.stack } := by
      refine e3.trans ?_
      rw [hf₂, State.calling_eq h.top, State.setFrames_setFrames, State.setTop_of_frames _ hr', hr]
      rfl
    rw [← hs₂]
    exact hsteps
  · intro x ho
    subst ho
    have hf₂ : s₂.frames = .throwing x :: .java g :: U.frames.tail := hend
    have hs₂ : s₂ = ((({ U with heap := s₂.heap, slotsUsed := s₂.slotsUsed } : State).setVm s₂.vm).setTop g).pushFrame (.throwing x) := by
      refine e3.trans ?_
      rw [hf₂, State.calling_eq h.top, State.setFrames_setFrames, State.pushFrame, State.frames_setTop _ hr', State.setTop_of_frames _ hr', State.setFrames_setFrames, hr]
      rfl
    rw [← hs₂]
    exact hsteps
/-! A HANDLER WHOSE CLASS MAY BE UNRESOLVED -/
def FindsC (e : Env) (s : State) (f : JFrame) (a : Addr) (h : Handler) (s' : State) : Prop :=
  ∀ (Q : Handler → Pre) (E : CtlPost) (d : Bool) (acts : List Action), wp (findHandler f a) Q E e d acts s ↔ Q h d acts s'
theorem go_cold {e : Env} {s : State} {f : JFrame} {a : Addr} {x : ExceptionTableEntry} {t : List ExceptionTableEntry} {c : ClassId} {cell : Cell} {vm' : Vm} {Q : Handler → Pre} {E : CtlPost} {d : Bool} {acts : List Action}
    (hx : covers x f.pc = true) (h0 : x.catchType ≠ 0) (hg : (Jvm.resolveClass f.method.cls x.catchType).Gives e.toSetting s.vm (.ok c) vm')
    (hcell : s.heap[a]? = some cell) (hobj : ∀ k, cell.vm ≠ .statics k) (hk : ∃ k, vm'.classes[cell.cls]? = some k) (hc : ∃ k, vm'.classes[c]? = some k) (hsz : vm'.classes.size ≤ s.vm.classes.size) :
    wp (findHandler.go f a (x :: t)) Q E e d acts s ↔
      if vm'.assignable cell.cls c = true then Q (.found x.handlerPc) d acts (s.setVm vm') else wp (findHandler.go f a t) Q E e d acts (s.setVm vm') := by
  simp only [covers] at hx
  obtain ⟨ha, ht⟩ := hg.op (op := VmOp.resolveClass f.method.cls x.catchType) rfl
  have hcell' : (s.setVm vm').heap[a]? = some cell := hcell
  cases hfit : vm'.assignable cell.cls c <;>
    simp [findHandler.go, hx, h0, ha, ht, hsz, hcell, hcell', hobj, hk, hc, hfit, VmOp.dirties, VmOp.acts]
theorem stepThrowing_catchC {e : Env} {s s' : State} {a : Addr} {f : JFrame} {r : List Frame} {pc : Nat} (hfind : FindsC e s f a (.found pc) s') :
    (stepThrowing e s a (.java f :: r)).Is (s'.setFrames (.java { f with pc := pc, stack := [.ref a] } :: r)) [] := by
  simp only [stepThrowing, searchFrame, vmDo]
  generalize hr : Sem.go _ e false [] s = res
  obtain ⟨as, rfl, ha⟩ := Sem.eq_ok_of hr (a := Handler.found pc) (s' := s') (acts' := []) (by simp [hfind _ _ _ _])
  exact ⟨rfl, ha⟩
theorem Steps.caughtC {tb : Tables} {e : Env} {s target : State} {g : JFrame} {c : Code} {below : List Frame} {a : Addr} (h : At s g.method c below) {pc : Nat} {vm' : Vm}
    (hfind : FindsC e ((s.setTop g).pushFrame (.throwing a)) g a (.found pc) (((s.setTop g).pushFrame (.throwing a)).setVm vm'))
    (hrest : Steps tb e below ((s.setVm vm').setTop { g with pc := pc, stack := [.ref a] }) target) :
    Steps tb e below ((s.setTop g).pushFrame (.throwing a)) target := by
  obtain ⟨hgo, hw⟩ := h.throwing a
  refine Steps.head hgo hw ?_
  rw [stepThread_throwing (frames_entered h.top _), (stepThrowing_catchC (s := (s.setTop g).pushFrame (.throwing a)) hfind).1]
  obtain ⟨g₀, hg⟩ := Option.isSome_iff_exists.mp h.top
  obtain ⟨r, hr⟩ := State.topJava?_eq_some.mp hg
  have hr2 : (s.setVm vm').frames = .java g₀ :: r := hr
  rw [State.setTop_of_frames _ hr2] at hrest
  have e1 : ((((s.setTop g).pushFrame (.throwing a)).setVm vm').setFrames (.java { g with pc := pc, stack := [.ref a] } :: s.frames.tail)) = (s.setVm vm').setFrames (.java { g with pc := pc, stack := [.ref a] } :: r) := by
    rw [State.pushFrame, State.setTop_of_frames _ hr, State.setFrames_setFrames, hr]
    show ((s.setFrames _).setVm vm').setFrames _ = _
    rw [show (s.setFrames (Frame.throwing a :: (s.setFrames (Frame.java g :: r)).frames)).setVm vm' = (s.setVm vm').setFrames (Frame.throwing a :: (s.setFrames (Frame.java g :: r)).frames) from rfl, State.setFrames_setFrames]
    rfl
  rw [e1]
  exact hrest
end
section
/-! CONTRACTS OVER FUNCTIONAL WORLDS, AND THE ROWS OF A WALK OVER THEM -/
def stW (w : Cond) : Bool := goodWord w || (match w with
  | .fieldLinkNest .. => true
  | .methodLinkNest .. => true
  | .arrayOver (.object _) => true
  | _ => false) || (w.onTables && w.faceAtom)
def WS : List Cond := lw_tbl.filter stW
theorem st_warm {w : Cond} (h : stW w = true) {args a' : Array Value} {s U : State} (hW : s.WarmedH U.vm) (hb : w.before args s = true) : w.before a' U = true := by
  unfold stW at h
  rw [Bool.or_eq_true, Bool.or_eq_true] at h
  rcases h with (h | h) | h
  · exact word_at hW (good_of_word h) hb
  · cases w <;> first | (cases h; done) | exact va_Nw.use rfl (va_Nw.warmF hW (va_Nw.of rfl hb)) | exact va_Nw.use rfl (va_Nw.warmM hW (va_Nw.of rfl hb)) | (rename_i ty; cases ty <;> first | (cases h; done) | exact va_AO.use (va_AO.moved hW.alike (va_AO.of hb)))
  · rw [Bool.and_eq_true] at h
    exact va_tabs h.1 (rfl : (s.setVm U.vm).vm = U.vm) (Cond.faceAtom_setVm (args := args) hW.alike w h.2 hb)
theorem ws_warm {args a' : Array Value} {s U : State} (hW : s.WarmedH U.vm) (h : ∀ w ∈ WS, w.before args s = true) : ∀ w ∈ WS, w.before a' U = true := fun w hw => st_warm (List.mem_filter.mp hw).2 hW (h w hw)
theorem ws_in {w : Cond} (h : w ∈ lw_tbl) (hs : stW w = true) : w ∈ WS := List.mem_filter.mpr ⟨h, hs⟩
/-- the array classes: int, long, boolean, Program, Worker, Lock, Clock -/
def TY (tc : Nat → ClassId) : List (ClassId × FieldType) := [(tc 0, .int), (tc 1, .long), (tc 2, .boolean), (tc 3, .object R_Program), (tc 4, .object R_Worker), (tc 5, .object R_Lock), (tc 6, .object R_Clock)]
def rmD (d : Nat) : Room := { frames := d, cells := 0, slots := 0, locals := 32 * d }
abbrev Cx (p : Program) (s : State) (m : MethodId) (args : Array Value) (c : Code) (cc : ByteArray) (nL : Nat) (own : String) (D : va_G) (tc : Nat → ClassId) : Prop :=
  p.tables.exec = Jvm.exec ∧ c.code = cc ∧ c.maxLocals = nL ∧ s.vm.findClass own = some m.cls ∧ (∀ w ∈ WS, w.before args s = true) ∧ va_K D vwCl (TY tc) s
def Aw (n : Nat) (ad : Nat → Nat) : Nat → Prop := fun q => ∃ k, k < n ∧ q = ad k
def CtP (D : va_G) (tc : Nat → ClassId) (n : Nat) (ad : Nat → Nat) (E : Nat → va_E) (av : List Value) : Array Value → State → Prop := fun v U => v = av.toArray ∧ va_P D vwCl (wW n ad E) U.heap ∧ va_K D vwCl (TY tc) U ∧ va_D (Aw n ad) (wW n ad E)
def CtQ (D : va_G) (n : Nat) (ad : Nat → Nat) (post : Outcome → (Nat → va_E) → Prop) : Array Value → State → Outcome → State → Prop := fun _ st o t => (∃ E', post o E' ∧ va_P D vwCl (wW n ad E') t.heap) ∧ va_F (Aw n ad) st t
/-- a method that makes nothing: at a world of n cells at ad with E, arguments av: it ends, and 'post outcome E2'; no other cell changes -/
def Ct (l : Launch) (D : va_G) (tc : Nat → ClassId) (y : MethodName) (d n : Nat) (ad : Nat → Nat) (E : Nat → va_E) (av : List Value) (post : Outcome → (Nat → va_E) → Prop) : Prop :=
  MetX l y WS (rmD d) (CtP D tc n ad E av) (CtQ D n ad post) 0 0 (Aw n ad)
theorem Ct.ofW {l : Launch} {D : va_G} {tc : Nat → ClassId} {y : MethodName} {d n : Nat} {ad : Nat → Nat} {E : Nat → va_E} {av : List Value} {post : Outcome → (Nat → va_E) → Prop} {cc : ByteArray} {maxL : Nat} {ret : Option FieldType} {own : String}
    (hy : plainName y.cls = true) (ho : y.cls = own) (hw : Cond.code y cc maxL ret ∈ WS) (hlen : (lg_sl av).length ≤ maxL)
    (body : ∀ (p : Program) (e : Env) (s : State) (m : MethodId) (args : Array Value) (below : List Frame) (meth : Method) (c : Code) (ls : Array Slot), Cx p s m args c cc maxL own D tc → meth.locks = false → meth.sig.returnType = ret → va_D (Aw n ad) (wW n ad E) → va_P D vwCl (wW n ad E) s.heap → va_S (Aw n ad) s.heap s.heap [] → lv_has ls maxL (lv_args 0 av) →
      W p l e (rmD d) s m args below meth c s.heap [] 0 0 (XQ below (CtQ D n ad post) args s 0 0 (Aw n ad)) (F0 m 0 ls [])) : Ct l D tc y d n ad E av post := by
  refine MetX.ofW hy hw ?_
  intro p e s m args below meth c s₁ B hml hP
  obtain ⟨rfl, hP, hK, hD⟩ := hP
  rw [lg_entry_eq]
  exact body p e s m _ below meth c _ ⟨B.exec, B.bytes, hml, (by rw [← ho]; exact findClass_of_methodNamed B.named), atoms_spec (ws := WS) B.pre, hK⟩ B.notSynchronized B.returns hD hP va_S.rf (lv_entry av hlen)
section CR
variable {p : Program} {l : Launch} {e : Env} {R : Room} {s : State} {m : MethodId} {args : Array Value} {below : List Frame} {meth : Method} {c : Code} {H : Heap} {locs : List Loc} {cells slots : Nat} {Q : State → Prop}
variable {cc : ByteArray} {nL pc n : Nat} {own : String} {D : va_G} {tc : Nat → ClassId} {ad : Nat → Nat} {E : Nat → va_E} {A : Nat → Prop} {H0 : Heap} {ls : Array Slot} {rest : List Value} {post : Outcome → (Nat → va_E) → Prop}
theorem q_iret {v : Int32} (X : Cx p s m args c cc nL own D tc) (hlk : meth.locks = false) (hr : meth.sig.returnType = some .int) (hP : va_P D vwCl (wW n ad E) H) (hS : va_S (Aw n ad) s.heap H locs) (hdg : decode cc pc = .ok (.ireturn, 1)) (hp : post (.returned (some (.int v))) E) :
    W p l e R s m args below meth c H locs 0 0 (XQ below (CtQ D n ad post) args s 0 0 (Aw n ad)) (F0 m pc ls [.int v]) :=
  W.mono (fun _ h => XQ.ofM h) (W.iret X.1 X.2.1 hr (fun t ht _ => ⟨⟨E, hp, by rw [ht]; exact hP⟩, hS.F ht⟩) hS.2.2 hdg hlk)
theorem q_zret {v : Int32} (X : Cx p s m args c cc nL own D tc) (hlk : meth.locks = false) (hr : meth.sig.returnType = some .boolean) (hn : narrow .boolean (.int v) = .int v) (hP : va_P D vwCl (wW n ad E) H) (hS : va_S (Aw n ad) s.heap H locs) (hdg : decode cc pc = .ok (.ireturn, 1)) (hp : post (.returned (some (.int v))) E) :
    W p l e R s m args below meth c H locs 0 0 (XQ below (CtQ D n ad post) args s 0 0 (Aw n ad)) (F0 m pc ls [.int v]) :=
  W.mono (fun _ h => XQ.ofM h) (W.zret X.1 X.2.1 hr hn (fun t ht _ => ⟨⟨E, hp, by rw [ht]; exact hP⟩, hS.F ht⟩) hS.2.2 hdg hlk)
theorem q_vret (X : Cx p s m args c cc nL own D tc) (hlk : meth.locks = false) (hr : meth.sig.returnType = none) (hP : va_P D vwCl (wW n ad E) H) (hS : va_S (Aw n ad) s.heap H locs) (hdg : decode cc pc = .ok (.return_, 1)) (hp : post (.returned none) E) :
    W p l e R s m args below meth c H locs 0 0 (XQ below (CtQ D n ad post) args s 0 0 (Aw n ad)) (F0 m pc ls []) :=
  W.mono (fun _ h => XQ.ofM h) (W.vret X.1 X.2.1 hr (fun t ht _ => ⟨⟨E, hp, by rw [ht]; exact hP⟩, hS.F ht⟩) hS.2.2 hdg hlk)
theorem q_lret {v : Int64} (X : Cx p s m args c cc nL own D tc) (hlk : meth.locks = false) (hr : meth.sig.returnType = some .long) (hP : va_P D vwCl (wW n ad E) H) (hS : va_S (Aw n ad) s.heap H locs) (hdg : decode cc pc = .ok (.lreturn, 1)) (hp : post (.returned (some (.long v))) E) :
    W p l e R s m args below meth c H locs 0 0 (XQ below (CtQ D n ad post) args s 0 0 (Aw n ad)) (F0 m pc ls [.long v]) :=
  W.mono (fun _ h => XQ.ofM h) (W.lret X.1 X.2.1 hr (fun t ht _ => ⟨⟨E, hp, by rw [ht]; exact hP⟩, hS.F ht⟩) hS.2.2 hdg hlk)
theorem q_aret {a : Nat} {C : String} (X : Cx p s m args c cc nL own D tc) (hlk : meth.locks = false) (hr : meth.sig.returnType = some (.object C)) (hP : va_P D vwCl (wW n ad E) H) (hS : va_S (Aw n ad) s.heap H locs) (hdg : decode cc pc = .ok (.areturn, 1)) (hp : post (.returned (some (.ref a))) E) :
    W p l e R s m args below meth c H locs 0 0 (XQ below (CtQ D n ad post) args s 0 0 (Aw n ad)) (F0 m pc ls [.ref a]) :=
  W.mono (fun _ h => XQ.ofM h) (W.aret X.1 X.2.1 hr (Or.inl ⟨C, rfl⟩) (Or.inr ⟨a, rfl⟩) (fun t ht _ => ⟨⟨E, hp, by rw [ht]; exact hP⟩, hS.F ht⟩) hS.2.2 hdg hlk)
-- fields
theorem q_get {ref C : String} {T : u_T} {N ci index k : Nat} {fs : List Value} {v : Value} (X : Cx p s m args c cc nL own D tc) (hP : va_P D vwCl (wW n ad E) H) (hk : k < n) (hE : E k = .inr (ci, fs)) (hc : vwCl[ci]? = some (C, T, N)) (hin : ∀ w ∈ u_ws C T N, w ∈ WS) (j : Nat) (hj : j < N) (hlink : Cond.fieldLink own index ref (T j).2.1 (T j).2.2.1 ∈ WS) (hsame : ref = (T j).1) (hv : fs[j]? = some v) (hdg : decode cc pc = .ok (.getfield index, 3))
    (kk : W p l e R s m args below meth c H locs cells slots Q (F0 m (pc + 3) ls (v :: rest))) : W p l e R s m args below meth c H locs cells slots Q (F0 m pc ls (.ref (ad k) :: rest)) :=
  va_get (D := D) X.1 X.2.1 X.2.2.2.2.1 hin X.2.2.2.1 X.2.2.2.2.2 hP k (wW_get hk hE) hc j hj (X.2.2.2.2.1 _ hlink) (fun _ h => by rw [hsame]; exact h) hv hdg kk
theorem q_getN {ref C host : String} {T : u_T} {N ci index k : Nat} {fs : List Value} {v : Value} (X : Cx p s m args c cc nL own D tc) (hP : va_P D vwCl (wW n ad E) H) (hk : k < n) (hE : E k = .inr (ci, fs)) (hc : vwCl[ci]? = some (C, T, N)) (hin : ∀ w ∈ u_ws C T N, w ∈ WS) (j : Nat) (hj : j < N) (hlink : Cond.fieldLinkNest own index ref (T j).2.1 (T j).2.2.1 host ∈ WS) (hsame : ref = (T j).1) (hv : fs[j]? = some v) (hdg : decode cc pc = .ok (.getfield index, 3))
    (kk : W p l e R s m args below meth c H locs cells slots Q (F0 m (pc + 3) ls (v :: rest))) : W p l e R s m args below meth c H locs cells slots Q (F0 m pc ls (.ref (ad k) :: rest)) :=
  va_getN (D := D) X.1 X.2.1 X.2.2.2.2.1 hin X.2.2.2.1 X.2.2.2.2.2 hP k (wW_get hk hE) hc j hj (X.2.2.2.2.1 _ hlink) (fun _ h => by rw [hsame]; exact h) hv hdg kk
theorem q_put {ref C : String} {T : u_T} {N ci index k : Nat} {fs : List Value} {v : Value} {ty : FieldType} (ty0 : Nat → FieldType) (X : Cx p s m args c cc nL own D tc) (hD : va_D A (wW n ad E)) (hP : va_P D vwCl (wW n ad E) H) (hS : va_S A H0 H locs) (hk : k < n) (hE : E k = .inr (ci, fs)) (hc : vwCl[ci]? = some (C, T, N)) (hin : ∀ w ∈ u_ws C T N, w ∈ WS)
    (hty : ∀ k, k < N → parseFieldDescriptor (T k).2.2.1 = some (ty0 k)) (hnm : ∀ a, a < N → ∀ b, b < N → a ≠ b → (T a).2.1 ≠ (T b).2.1) (j : Nat) (hj : j < N) (hlink : Cond.fieldLink own index ref (T j).2.1 (T j).2.2.1 ∈ WS) (hsame : ref = (T j).1) (hfin : (T j).2.2.2 = false) (hd : parseFieldDescriptor (T j).2.2.1 = some ty) (hn : narrow ty v = v) (hfit : fits ty v = true) (hl : j < fs.length) (hdg : decode cc pc = .ok (.putfield index, 3))
    (kk : ∀ (H1 : Heap) (locs1 : List Loc), va_D A (wW n ad (va_up E k (.inr (ci, fs.set j v)))) → va_P D vwCl (wW n ad (va_up E k (.inr (ci, fs.set j v)))) H1 → va_S A H0 H1 locs1 → W p l e R s m args below meth c H1 locs1 cells slots Q (F0 m (pc + 3) ls rest)) : W p l e R s m args below meth c H locs cells slots Q (F0 m pc ls (v :: .ref (ad k) :: rest)) :=
  va_put (D := D) X.1 X.2.1 X.2.2.2.2.1 hin ty0 hty hnm X.2.2.2.1 X.2.2.2.2.2 hP hD hS k (wW_get hk hE) hc j hj (X.2.2.2.2.1 _ hlink) (fun _ h => by rw [hsame]; exact h) hfin hd hn hfit hl hdg (fun H1 locs1 h1 h2 h3 => kk H1 locs1 (by rw [← wW_set]; exact h2) (by rw [← wW_set]; exact h1) h3)
theorem q_putN {ref C host : String} {T : u_T} {N ci index k : Nat} {fs : List Value} {v : Value} {ty : FieldType} (ty0 : Nat → FieldType) (X : Cx p s m args c cc nL own D tc) (hD : va_D A (wW n ad E)) (hP : va_P D vwCl (wW n ad E) H) (hS : va_S A H0 H locs) (hk : k < n) (hE : E k = .inr (ci, fs)) (hc : vwCl[ci]? = some (C, T, N)) (hin : ∀ w ∈ u_ws C T N, w ∈ WS)
    (hty : ∀ k, k < N → parseFieldDescriptor (T k).2.2.1 = some (ty0 k)) (hnm : ∀ a, a < N → ∀ b, b < N → a ≠ b → (T a).2.1 ≠ (T b).2.1) (j : Nat) (hj : j < N) (hlink : Cond.fieldLinkNest own index ref (T j).2.1 (T j).2.2.1 host ∈ WS) (hsame : ref = (T j).1) (hfin : (T j).2.2.2 = false) (hd : parseFieldDescriptor (T j).2.2.1 = some ty) (hn : narrow ty v = v) (hfit : fits ty v = true) (hl : j < fs.length) (hdg : decode cc pc = .ok (.putfield index, 3))
    (kk : ∀ (H1 : Heap) (locs1 : List Loc), va_D A (wW n ad (va_up E k (.inr (ci, fs.set j v)))) → va_P D vwCl (wW n ad (va_up E k (.inr (ci, fs.set j v)))) H1 → va_S A H0 H1 locs1 → W p l e R s m args below meth c H1 locs1 cells slots Q (F0 m (pc + 3) ls rest)) : W p l e R s m args below meth c H locs cells slots Q (F0 m pc ls (v :: .ref (ad k) :: rest)) :=
  va_putN (D := D) X.1 X.2.1 X.2.2.2.2.1 hin ty0 hty hnm X.2.2.2.1 X.2.2.2.2.2 hP hD hS k (wW_get hk hE) hc j hj (X.2.2.2.2.1 _ hlink) (fun _ h => by rw [hsame]; exact h) hfin hd hn hfit hl hdg (fun H1 locs1 h1 h2 h3 => kk H1 locs1 (by rw [← wW_set]; exact h2) (by rw [← wW_set]; exact h1) h3)
theorem q_putF {ref C : String} {T : u_T} {N ci index k : Nat} {fs : List Value} {v : Value} {ty : FieldType} (ty0 : Nat → FieldType) (X : Cx p s m args c cc nL own D tc) (hD : va_D A (wW n ad E)) (hP : va_P D vwCl (wW n ad E) H) (hS : va_S A H0 H locs) (hk : k < n) (hE : E k = .inr (ci, fs)) (hc : vwCl[ci]? = some (C, T, N)) (hin : ∀ w ∈ u_ws C T N, w ∈ WS)
    (hty : ∀ k, k < N → parseFieldDescriptor (T k).2.2.1 = some (ty0 k)) (hnm : ∀ a, a < N → ∀ b, b < N → a ≠ b → (T a).2.1 ≠ (T b).2.1) (j : Nat) (hj : j < N) (hlink : Cond.fieldLink own index ref (T j).2.1 (T j).2.2.1 ∈ WS) (hsame : ref = (T j).1) (hfin : (T j).2.2.2 = true) (hin2 : meth.name = "<init>") (hdecl : (T j).1 = own) (hd : parseFieldDescriptor (T j).2.2.1 = some ty) (hn : narrow ty v = v) (hfit : fits ty v = true) (hl : j < fs.length) (hdg : decode cc pc = .ok (.putfield index, 3))
    (kk : ∀ (H1 : Heap) (locs1 : List Loc), va_D A (wW n ad (va_up E k (.inr (ci, fs.set j v)))) → va_P D vwCl (wW n ad (va_up E k (.inr (ci, fs.set j v)))) H1 → va_S A H0 H1 locs1 → W p l e R s m args below meth c H1 locs1 cells slots Q (F0 m (pc + 3) ls rest)) : W p l e R s m args below meth c H locs cells slots Q (F0 m pc ls (v :: .ref (ad k) :: rest)) :=
  va_putF (D := D) X.1 X.2.1 X.2.2.2.2.1 hin ty0 hty hnm X.2.2.2.1 X.2.2.2.2.2 hP hD hS k (wW_get hk hE) hc j hj (X.2.2.2.2.1 _ hlink) (fun _ h => by rw [hsame]; exact h) hfin hin2 hdecl hd hn hfit hl hdg (fun H1 locs1 h1 h2 h3 => kk H1 locs1 (by rw [← wW_set]; exact h2) (by rw [← wW_set]; exact h1) h3)
-- arrays: the place by its number
theorem q_iald {k N : Nat} {f : Nat → Int32} {i : Int32} (j : Nat) (X : Cx p s m args c cc nL own D tc) (hP : va_P D vwCl (wW n ad E) H) (hk : k < n) (hE : E k = .inl (tc 0, N, .inl f)) (hi : i = nI j) (hj : j < N) (hN : N < 2 ^ 31) (hdg : decode cc pc = .ok (.iaload, 1))
    (kk : W p l e R s m args below meth c H locs cells slots Q (F0 m (pc + 1) ls (.int (f j) :: rest))) : W p l e R s m args below meth c H locs cells slots Q (F0 m pc ls (.int i :: .ref (ad k) :: rest)) := by
  subst hi
  refine va_iald (D := D) X.1 X.2.1 X.2.2.2.2.2 hP k 0 (wW_get hk hE) rfl (vp_in_nI hj hN) hdg ?_
  rw [nI_clamp (by omega)]
  exact kk
theorem q_lald {k N : Nat} {f : Nat → Int64} {i : Int32} (j : Nat) (X : Cx p s m args c cc nL own D tc) (hP : va_P D vwCl (wW n ad E) H) (hk : k < n) (hE : E k = .inl (tc 1, N, .inr (.inl f))) (hi : i = nI j) (hj : j < N) (hN : N < 2 ^ 31) (hdg : decode cc pc = .ok (.laload, 1))
    (kk : W p l e R s m args below meth c H locs cells slots Q (F0 m (pc + 1) ls (.long (f j) :: rest))) : W p l e R s m args below meth c H locs cells slots Q (F0 m pc ls (.int i :: .ref (ad k) :: rest)) := by
  subst hi
  refine va_lald (D := D) X.1 X.2.1 X.2.2.2.2.2 hP k 1 (wW_get hk hE) rfl (vp_in_nI hj hN) hdg ?_
  rw [nI_clamp (by omega)]
  exact kk
theorem q_zald {k N : Nat} {f : Nat → Int32} {i : Int32} (j : Nat) (X : Cx p s m args c cc nL own D tc) (hP : va_P D vwCl (wW n ad E) H) (hk : k < n) (hE : E k = .inl (tc 2, N, .inl f)) (hi : i = nI j) (hj : j < N) (hN : N < 2 ^ 31) (hdg : decode cc pc = .ok (.baload, 1))
    (kk : W p l e R s m args below meth c H locs cells slots Q (F0 m (pc + 1) ls (.int (f j) :: rest))) : W p l e R s m args below meth c H locs cells slots Q (F0 m pc ls (.int i :: .ref (ad k) :: rest)) := by
  subst hi
  refine va_zald (D := D) X.1 X.2.1 X.2.2.2.2.2 hP k 2 (wW_get hk hE) rfl (vp_in_nI hj hN) hdg ?_
  rw [nI_clamp (by omega)]
  exact kk
theorem q_aald {k N t0 : Nat} {C : String} {cA : ClassId} {f : Nat → Option Nat} {i : Int32} {q : Nat} (j : Nat) (X : Cx p s m args c cc nL own D tc) (hP : va_P D vwCl (wW n ad E) H) (hk : k < n) (hE : E k = .inl (cA, N, .inr (.inr (.inr (.inr f))))) (ht : (TY tc)[t0]? = some (cA, .object C)) (hi : i = nI j) (hj : j < N) (hN : N < 2 ^ 31) (hq : f j = some q) (hdg : decode cc pc = .ok (.aaload, 1))
    (kk : W p l e R s m args below meth c H locs cells slots Q (F0 m (pc + 1) ls (.ref q :: rest))) : W p l e R s m args below meth c H locs cells slots Q (F0 m pc ls (.int i :: .ref (ad k) :: rest)) := by
  subst hi
  refine va_aldq (D := D) X.1 X.2.1 X.2.2.2.2.2 hP k t0 (wW_get hk hE) ht (vp_in_nI hj hN) hdg ?_
  rw [nI_clamp (by omega), hq]
  exact kk
theorem q_iast {k N : Nat} {f : Nat → Int32} {i x : Int32} (j : Nat) (X : Cx p s m args c cc nL own D tc) (hD : va_D A (wW n ad E)) (hP : va_P D vwCl (wW n ad E) H) (hS : va_S A H0 H locs) (hk : k < n) (hE : E k = .inl (tc 0, N, .inl f)) (hi : i = nI j) (hj : j < N) (hN : N < 2 ^ 31) (hdg : decode cc pc = .ok (.iastore, 1))
    (kk : ∀ (H1 : Heap) (locs1 : List Loc), va_D A (wW n ad (va_up E k (.inl (tc 0, N, .inl (upd f j x))))) → va_P D vwCl (wW n ad (va_up E k (.inl (tc 0, N, .inl (upd f j x))))) H1 → va_S A H0 H1 locs1 → W p l e R s m args below meth c H1 locs1 cells slots Q (F0 m (pc + 1) ls rest)) : W p l e R s m args below meth c H locs cells slots Q (F0 m pc ls (.int x :: .int i :: .ref (ad k) :: rest)) := by
  subst hi
  refine va_iast (D := D) X.1 X.2.1 X.2.2.2.2.2 hP hD hS k 0 (wW_get hk hE) rfl (vp_in_nI hj hN) hdg (fun H1 locs1 h1 h2 h3 => ?_)
  rw [nI_clamp (by omega), wW_set] at h1 h2
  exact kk H1 locs1 h2 h1 h3
theorem q_last {k N : Nat} {f : Nat → Int64} {i : Int32} {x : Int64} (j : Nat) (X : Cx p s m args c cc nL own D tc) (hD : va_D A (wW n ad E)) (hP : va_P D vwCl (wW n ad E) H) (hS : va_S A H0 H locs) (hk : k < n) (hE : E k = .inl (tc 1, N, .inr (.inl f))) (hi : i = nI j) (hj : j < N) (hN : N < 2 ^ 31) (hdg : decode cc pc = .ok (.lastore, 1))
    (kk : ∀ (H1 : Heap) (locs1 : List Loc), va_D A (wW n ad (va_up E k (.inl (tc 1, N, .inr (.inl (vp_updL f j x)))))) → va_P D vwCl (wW n ad (va_up E k (.inl (tc 1, N, .inr (.inl (vp_updL f j x)))))) H1 → va_S A H0 H1 locs1 → W p l e R s m args below meth c H1 locs1 cells slots Q (F0 m (pc + 1) ls rest)) : W p l e R s m args below meth c H locs cells slots Q (F0 m pc ls (.long x :: .int i :: .ref (ad k) :: rest)) := by
  subst hi
  refine va_last (D := D) X.1 X.2.1 X.2.2.2.2.2 hP hD hS k 1 (wW_get hk hE) rfl (vp_in_nI hj hN) hdg (fun H1 locs1 h1 h2 h3 => ?_)
  rw [nI_clamp (by omega), wW_set] at h1 h2
  exact kk H1 locs1 h2 h1 h3
theorem q_zast {k N : Nat} {f : Nat → Int32} {i x : Int32} (j : Nat) (X : Cx p s m args c cc nL own D tc) (hD : va_D A (wW n ad E)) (hP : va_P D vwCl (wW n ad E) H) (hS : va_S A H0 H locs) (hk : k < n) (hE : E k = .inl (tc 2, N, .inl f)) (hi : i = nI j) (hj : j < N) (hN : N < 2 ^ 31) (hdg : decode cc pc = .ok (.bastore, 1))
    (kk : ∀ (H1 : Heap) (locs1 : List Loc), va_D A (wW n ad (va_up E k (.inl (tc 2, N, .inl (upd f j (vp_nar .boolean x)))))) → va_P D vwCl (wW n ad (va_up E k (.inl (tc 2, N, .inl (upd f j (vp_nar .boolean x)))))) H1 → va_S A H0 H1 locs1 → W p l e R s m args below meth c H1 locs1 cells slots Q (F0 m (pc + 1) ls rest)) : W p l e R s m args below meth c H locs cells slots Q (F0 m pc ls (.int x :: .int i :: .ref (ad k) :: rest)) := by
  subst hi
  refine va_zast (D := D) X.1 X.2.1 X.2.2.2.2.2 hP hD hS k 2 (wW_get hk hE) rfl (vp_in_nI hj hN) hdg (fun H1 locs1 h1 h2 h3 => ?_)
  rw [nI_clamp (by omega), wW_set] at h1 h2
  exact kk H1 locs1 h2 h1 h3
end CR
end
section
/-! CALLS: a run of a callee by its contract (it returns or throws), then what goes on behind it -/
section XC
variable {p : Program} {l : Launch} {e : Env} {R : Room} {s : State} {m : MethodId} {args : Array Value} {below : List Frame} {meth : Method} {c : Code} {H : Heap} {locs : List Loc} {cells slots : Nat} {Q : State → Prop}
variable {cc : ByteArray} {nL pc n : Nat} {own : String} {D : va_G} {tc : Nat → ClassId} {ad : Nat → Nat} {E : Nat → va_E} {A : Nat → Prop} {H0 : Heap} {ls : Array Slot} {rest st0 As : List Value} {post : Outcome → (Nat → va_E) → Prop}
variable {y : MethodName} {bytes : ByteArray} {maxL mc ms index : Nat} {ret : Option FieldType} {rm : Room} {Pc : Array Value → State → Prop} {Qc : Array Value → State → Outcome → State → Prop} {free : Addr → Prop} {C host : String} {b : Nat}
def XRun (p : Program) (l : Launch) (e : Env) (R : Room) (s : State) (m : MethodId) (args : Array Value) (below : List Frame) (meth : Method) (c : Code) (H : Heap) (locs : List Loc) (cells slots mc ms pc : Nat) (ls : Array Slot) (st0 rest : List Value) (Qa : State → Outcome → State → Prop) (free : Addr → Prop) : Prop :=
  ∀ T : State, T.heap = H → Stand p l e R s m args below meth c T locs cells slots → ∃ (o : Outcome) (st₀ t T' : State) (L : List Loc), st₀.heap = H ∧ Stand p l e R s m args below meth c T' (locs ++ L) (cells + mc) (slots + ms) ∧ (∀ q ∈ L, free q.base) ∧ T'.heap = t.heap ∧ T'.vm = t.vm ∧ Qa st₀ o t ∧
    (∀ v, o = .returned v → ∀ tg, Steps p.tables e below (T'.setTop (F0 m (pc + 3) ls (v.toList ++ rest))) tg → Steps p.tables e below (T.setTop (F0 m pc ls st0)) tg) ∧
    (∀ x, o = .threw x → ∀ tg, Steps p.tables e below ((T'.setTop (F0 m pc ls rest)).pushFrame (.throwing x)) tg → Steps p.tables e below (T.setTop (F0 m pc ls st0)) tg)
theorem x_core {mk : MethodId} {vm₁ : Vm} {T : State} {ig : Instr} {a : Array Value} (X : Cx p s m args c cc nL own D tc) (hM : MetX l y WS rm Pc Qc mc ms free) (hrc : rm.cells = mc) (hrs : rm.slots = ms) (hfr : rm.frames + 1 ≤ R.frames) (hlo : 8 + (maxL + 11) + rm.locals ≤ R.locals)
    (hcode : Cond.code y bytes maxL ret ∈ WS) (hini : Cond.initialized y.cls ∈ WS) (hnamed : s.methodNamed? y = some mk) (hPc : ∀ U : State, U.heap = H → s.WarmedH U.vm → Pc a U) (hblind : FrameBlind Pc)
    (hsz : ls.size = nL) (hW : (rest.map fun v => v.category).sum ≤ 8) (hdg : decode cc pc = .ok (ig, 3)) (hf : cells + mc ≤ R.cells ∧ slots + ms ≤ R.slots) (hT : T.heap = H)
    (X₁ : Stand p l e R s m args below meth c (T.setVm vm₁) locs cells slots)
    (hstep₁ : ∀ tg, (∀ acts, Steps p.tables e below (doInvoke e ((T.setVm vm₁).setTop (F0 m pc ls rest)) acts mk a).1 tg) → Steps p.tables e below (T.setTop (F0 m pc ls st0)) tg) :
    ∃ (o : Outcome) (st₀ t T' : State) (L : List Loc), st₀.heap = H ∧ Stand p l e R s m args below meth c T' (locs ++ L) (cells + mc) (slots + ms) ∧ (∀ q ∈ L, free q.base) ∧ T'.heap = t.heap ∧ T'.vm = t.vm ∧ Qc a st₀ o t ∧
    (∀ v, o = .returned v → ∀ tg, Steps p.tables e below (T'.setTop (F0 m (pc + 3) ls (v.toList ++ rest))) tg → Steps p.tables e below (T.setTop (F0 m pc ls st0)) tg) ∧
    (∀ x, o = .threw x → ∀ tg, Steps p.tables e below ((T'.setTop (F0 m pc ls rest)).pushFrame (.throwing x)) tg → Steps p.tables e below (T.setTop (F0 m pc ls st0)) tg) := by
  obtain ⟨hx, hb, hml, ho, hts, hK⟩ := X
  obtain ⟨o, t, T', L, XB, e1, e2, hq, hL, hret, hthr⟩ := MetX.go (W := 8) (bytes := bytes) (maxL := maxL) (ret := ret) hM hrc hrs hfr hlo X₁ (g := F0 m pc ls rest) (ig := ig) (len := 3) (mk := mk) (a := a) rfl (hsz.trans hml.symm) (by rw [hb]; exact hdg) (lv_room hW) (X₁.named hnamed)
    (atoms_intro (ws_warm X₁.warmed hts)) (ws_warm X₁.warmed hts _ hcode) (ws_warm X₁.warmed hts _ hini) hf.1 hf.2 (hblind _ _ _ _ (hPc _ hT X₁.warmed))
  refine ⟨o, _, t, T', L, ?_, XB, hL, e1, e2, hq, fun v hv tg hs => hstep₁ _ fun acts => ?_, fun x hx' tg hs => hstep₁ _ fun acts => ?_⟩
  · exact hT
  · rw [doInvoke_state]; exact (hret v hv).trans hs
  · rw [doInvoke_state]; exact (hthr x hx').trans hs
theorem x_len {sig : ClassFile.MethodDescriptor} (hlen : (parseMethodDescriptor y.desc).map (fun d => d.parameters.length) = some As.length) (h : parseMethodDescriptor y.desc = some sig) : As.length = sig.parameters.length := by
  rw [h] at hlen
  exact (Option.some.inj hlen).symm
abbrev Ry (y : MethodName) (n : Nat) : Prop := (y.cls ≠ "java/lang/invoke/MethodHandle" ∧ y.cls ≠ "java/lang/invoke/VarHandle") ∧ (parseMethodDescriptor y.desc).map (fun d => d.parameters.length) = some n
theorem x_runV (X : Cx p s m args c cc nL own D tc) (hM : MetX l y WS rm Pc Qc mc ms free) (hrc : rm.cells = mc) (hrs : rm.slots = ms) (hfr : rm.frames + 1 ≤ R.frames) (hlo : 8 + (maxL + 11) + rm.locals ≤ R.locals)
    (hcode : Cond.code y bytes maxL ret ∈ WS) (hini : Cond.initialized y.cls ∈ WS) (hlink : Cond.methodLink own index y ∈ WS) (hinst : Cond.instanceMethod y ∈ WS) (hsel : Cond.selects C y y ∈ WS) (hy : Ry y As.length)
    (hcell : ∃ cellB : Cell, H[b]? = some cellB ∧ cellB.vm.isStatics = false ∧ s.vm.findClass C = some cellB.cls) (hPc : ∀ U : State, U.heap = H → s.WarmedH U.vm → Pc (Value.ref b :: As).toArray U) (hblind : FrameBlind Pc)
    (hsz : ls.size = nL) (hW : (rest.map fun v => v.category).sum ≤ 8) (hdg : decode cc pc = .ok (.invokevirtual index, 3)) (hf : cells + mc ≤ R.cells ∧ slots + ms ≤ R.slots) :
    XRun p l e R s m args below meth c H locs cells slots mc ms pc ls (As.reverse ++ .ref b :: rest) rest (Qc (Value.ref b :: As).toArray) free := by
  intro T hT XX
  have hts := X.2.2.2.2.1
  obtain ⟨mk, methM, hnamed, hmethM, hstM, habM⟩ := Cond.instanceMethod_spec (hts _ hinst)
  obtain ⟨methM', cM, hmethM', -, -, -, -, -, -, hsigM⟩ := Cond.code_spec hnamed (hts _ hcode)
  cases hmethM.symm.trans hmethM'
  obtain ⟨c2, r2, m2, q1, q2, q3, q4, kP, hkP, hkPi⟩ := Cond.selects_spec (hts _ hsel)
  obtain ⟨cellB, hcB, hoB, hclB⟩ := hcell
  cases hclB.symm.trans q1
  cases (State.methodFound?_of_named hnamed hy.1).symm.trans q2
  cases hnamed.symm.trans q3
  have hselP : selectMethod e.platform s.vm cellB.cls mk = .method mk := by rw [Launch.admits_selectMethod XX.admits]; exact q4
  obtain ⟨vm₁, X₁, hstep₁⟩ := XX.invokevirtual X.1 X.2.2.2.1 (hts _ hlink) hnamed hmethM hstM hkP hkPi hy.1 (a := b) (cell := cellB) (by rw [hT]; exact hcB)
    (fun z h => by rw [h] at hoB; cases hoB) hselP hmethM habM hkP hkPi (g := F0 m pc ls (As.reverse ++ .ref b :: rest)) rfl (argsL := As) (rest := rest) (x_len hy.2 hsigM) rfl (by rw [X.2.1]; exact hdg)
  exact x_core X hM hrc hrs hfr hlo hcode hini hnamed hPc hblind hsz hW hdg hf hT X₁ hstep₁
theorem x_runVN (X : Cx p s m args c cc nL own D tc) (hM : MetX l y WS rm Pc Qc mc ms free) (hrc : rm.cells = mc) (hrs : rm.slots = ms) (hfr : rm.frames + 1 ≤ R.frames) (hlo : 8 + (maxL + 11) + rm.locals ≤ R.locals)
    (hcode : Cond.code y bytes maxL ret ∈ WS) (hini : Cond.initialized y.cls ∈ WS) (hlink : Cond.methodLinkNest own index y host ∈ WS) (hinst : Cond.instanceMethod y ∈ WS) (hsel : Cond.selects C y y ∈ WS) (hy : Ry y As.length)
    (hcell : ∃ cellB : Cell, H[b]? = some cellB ∧ cellB.vm.isStatics = false ∧ s.vm.findClass C = some cellB.cls) (hPc : ∀ U : State, U.heap = H → s.WarmedH U.vm → Pc (Value.ref b :: As).toArray U) (hblind : FrameBlind Pc)
    (hsz : ls.size = nL) (hW : (rest.map fun v => v.category).sum ≤ 8) (hdg : decode cc pc = .ok (.invokevirtual index, 3)) (hf : cells + mc ≤ R.cells ∧ slots + ms ≤ R.slots) :
    XRun p l e R s m args below meth c H locs cells slots mc ms pc ls (As.reverse ++ .ref b :: rest) rest (Qc (Value.ref b :: As).toArray) free := by
  intro T hT XX
  have hts := X.2.2.2.2.1
  obtain ⟨mk, methM, hnamed, hmethM, hstM, habM⟩ := Cond.instanceMethod_spec (hts _ hinst)
  obtain ⟨methM', cM, hmethM', -, -, -, -, -, -, hsigM⟩ := Cond.code_spec hnamed (hts _ hcode)
  cases hmethM.symm.trans hmethM'
  obtain ⟨c2, r2, m2, q1, q2, q3, q4, kP, hkP, hkPi⟩ := Cond.selects_spec (hts _ hsel)
  obtain ⟨cellB, hcB, hoB, hclB⟩ := hcell
  cases hclB.symm.trans q1
  cases (State.methodFound?_of_named hnamed hy.1).symm.trans q2
  cases hnamed.symm.trans q3
  have hselP : selectMethod e.platform s.vm cellB.cls mk = .method mk := by rw [Launch.admits_selectMethod XX.admits]; exact q4
  obtain ⟨vm₁, X₁, hstep₁⟩ := XX.invokevirtualNest X.1 X.2.2.2.1 (hts _ hlink) hnamed hmethM hstM hkP hkPi hy.1 (a := b) (cell := cellB) (by rw [hT]; exact hcB)
    (fun z h => by rw [h] at hoB; cases hoB) hselP hmethM habM hkP hkPi (g := F0 m pc ls (As.reverse ++ .ref b :: rest)) rfl (argsL := As) (rest := rest) (x_len hy.2 hsigM) rfl (by rw [X.2.1]; exact hdg)
  exact x_core X hM hrc hrs hfr hlo hcode hini hnamed hPc hblind hsz hW hdg hf hT X₁ hstep₁
theorem x_runS (X : Cx p s m args c cc nL own D tc) (hM : MetX l y WS rm Pc Qc mc ms free) (hrc : rm.cells = mc) (hrs : rm.slots = ms) (hfr : rm.frames + 1 ≤ R.frames) (hlo : 8 + (maxL + 11) + rm.locals ≤ R.locals)
    (hcode : Cond.code y bytes maxL ret ∈ WS) (hini : Cond.initialized y.cls ∈ WS) (hlink : Cond.methodLink own index y ∈ WS) (hstat : Cond.static y ∈ WS) (hy : Ry y As.length)
    (hPc : ∀ U : State, U.heap = H → s.WarmedH U.vm → Pc As.toArray U) (hblind : FrameBlind Pc)
    (hsz : ls.size = nL) (hW : (rest.map fun v => v.category).sum ≤ 8) (hdg : decode cc pc = .ok (.invokestatic index, 3)) (hf : cells + mc ≤ R.cells ∧ slots + ms ≤ R.slots) :
    XRun p l e R s m args below meth c H locs cells slots mc ms pc ls (As.reverse ++ rest) rest (Qc As.toArray) free := by
  intro T hT XX
  have hts := X.2.2.2.2.1
  obtain ⟨mk, hnamed⟩ := Cond.code_named (hts _ hcode)
  obtain ⟨methM, cM, hmethM, -, -, -, -, -, -, hsigM⟩ := Cond.code_spec hnamed (hts _ hcode)
  have hstatic : methM.isStatic = true := Cond.static_spec hnamed hmethM (hts _ hstat)
  obtain ⟨kP, hkP, -⟩ := className_of_methodNamed hnamed
  have hinitP : kP.init = .initialized := Cond.initialized_spec (findClass_of_methodNamed hnamed) hkP (hts _ hini)
  obtain ⟨vm₁, X₁, hstep₁⟩ := XX.invokestatic X.1 X.2.2.2.1 (hts _ hlink) hnamed hmethM hstatic hkP hinitP hy.1 (g := F0 m pc ls (As.reverse ++ rest)) rfl (argsL := As) (rest := rest) (x_len hy.2 hsigM) rfl (by rw [X.2.1]; exact hdg)
  exact x_core X hM hrc hrs hfr hlo hcode hini hnamed hPc hblind hsz hW hdg hf hT X₁ hstep₁
theorem x_runI (X : Cx p s m args c cc nL own D tc) (hM : MetX l y WS rm Pc Qc mc ms free) (hrc : rm.cells = mc) (hrs : rm.slots = ms) (hfr : rm.frames + 1 ≤ R.frames) (hlo : 8 + (maxL + 11) + rm.locals ≤ R.locals)
    (hcode : Cond.code y bytes maxL none ∈ WS) (hini : Cond.initialized y.cls ∈ WS) (hlink : Cond.methodLink own index y ∈ WS) (hinst : Cond.instanceMethod y ∈ WS) (hy1 : y.name = "<init>") (hy : Ry y As.length)
    (hPc : ∀ U : State, U.heap = H → s.WarmedH U.vm → Pc (Value.ref b :: As).toArray U) (hblind : FrameBlind Pc)
    (hsz : ls.size = nL) (hW : (rest.map fun v => v.category).sum ≤ 8) (hdg : decode cc pc = .ok (.invokespecial index, 3)) (hf : cells + mc ≤ R.cells ∧ slots + ms ≤ R.slots) :
    XRun p l e R s m args below meth c H locs cells slots mc ms pc ls (As.reverse ++ .ref b :: rest) rest (Qc (Value.ref b :: As).toArray) free := by
  intro T hT XX
  have hts := X.2.2.2.2.1
  have hpl : e.platform.magicAccessors = ({} : Platform).magicAccessors := by rw [XX.admits.platform]
  obtain ⟨mk, methM, cM, kP, vm₁, hnamed, hmethM, hcodeM, -, hlocalsM, -, hkP, -, hW₁, hstep₁⟩ := Steps.initColdArgs (e := e) XX.here X.1 XX.warmed hpl X.2.2.2.1 hy1 hy.1 (hts _ hlink) (hts _ hinst) (hts _ hcode) (f := F0 m pc ls (As.reverse ++ .ref b :: rest)) rfl (fun sig h => x_len hy.2 h) rfl (by rw [X.2.1]; exact hdg)
  exact x_core X hM hrc hrs hfr hlo hcode hini hnamed hPc hblind hsz hW hdg hf hT (XX.noted hW₁) hstep₁
theorem x_runIN (X : Cx p s m args c cc nL own D tc) (hM : MetX l y WS rm Pc Qc mc ms free) (hrc : rm.cells = mc) (hrs : rm.slots = ms) (hfr : rm.frames + 1 ≤ R.frames) (hlo : 8 + (maxL + 11) + rm.locals ≤ R.locals)
    (hcode : Cond.code y bytes maxL none ∈ WS) (hini : Cond.initialized y.cls ∈ WS) (hlink : Cond.methodLinkNest own index y host ∈ WS) (hinst : Cond.instanceMethod y ∈ WS) (hy1 : y.name = "<init>") (hy : Ry y As.length)
    (hPc : ∀ U : State, U.heap = H → s.WarmedH U.vm → Pc (Value.ref b :: As).toArray U) (hblind : FrameBlind Pc)
    (hsz : ls.size = nL) (hW : (rest.map fun v => v.category).sum ≤ 8) (hdg : decode cc pc = .ok (.invokespecial index, 3)) (hf : cells + mc ≤ R.cells ∧ slots + ms ≤ R.slots) :
    XRun p l e R s m args below meth c H locs cells slots mc ms pc ls (As.reverse ++ .ref b :: rest) rest (Qc (Value.ref b :: As).toArray) free := by
  intro T hT XX
  have hts := X.2.2.2.2.1
  have hpl : e.platform.magicAccessors = ({} : Platform).magicAccessors := by rw [XX.admits.platform]
  obtain ⟨mk, methM, cM, kP, vm₁, hnamed, hmethM, hcodeM, -, hlocalsM, -, hkP, -, hW₁, hstep₁⟩ := Steps.initColdArgsNest (e := e) XX.here X.1 XX.warmed hpl X.2.2.2.1 hy1 hy.1 (hts _ hlink) (hts _ hinst) (hts _ hcode) (f := F0 m pc ls (As.reverse ++ .ref b :: rest)) rfl (fun sig h => x_len hy.2 h) rfl (by rw [X.2.1]; exact hdg)
  exact x_core X hM hrc hrs hfr hlo hcode hini hnamed hPc hblind hsz hW hdg hf hT (XX.noted hW₁) hstep₁
-- what goes on behind a call of a method that makes nothing (m2 cells, the callee's k-th is the caller's f k-th)
theorem ct_blind {n : Nat} {ad : Nat → Nat} {E : Nat → va_E} {av : List Value} : FrameBlind (CtP D tc n ad E av) := fun a U g mk h => ⟨h.1, h.2.1, va_K.moved (u := U) (U := U.calling g mk a) (Vm.Alike.refl U.vm) h.2.2.1, h.2.2.2⟩
theorem ct_pre {m2 : Nat} {f : Nat → Nat} {av : List Value} (X : Cx p s m args c cc nL own D tc) (hP : va_P D vwCl (wW n ad E) H) (hD : va_D A (wW n ad E)) (hf : ∀ k, k < m2 → f k < n) (hi : ∀ i j, i < m2 → j < m2 → f i = f j → i = j) :
    ∀ U : State, U.heap = H → s.WarmedH U.vm → CtP D tc m2 (fun k => ad (f k)) (fun k => E (f k)) av av.toArray U := fun U hU hW =>
  ⟨rfl, by rw [hU]; exact wW_cut hP hf, va_K.moved hW.alike X.2.2.2.2.2, (wW_cutD hD hf hi).1, fun k q hk => by
    obtain ⟨h1, rfl⟩ := wW_inv hk
    exact ⟨k, h1, rfl⟩⟩
theorem x_go {m2 : Nat} {f : Nat → Nat} {a : Array Value} (hr : XRun p l e R s m args below meth c H locs cells slots 0 0 pc ls st0 rest (CtQ D m2 (fun k => ad (f k)) post a) (Aw m2 (fun k => ad (f k)))) (hD : va_D A (wW n ad E)) (hP : va_P D vwCl (wW n ad E) H) (hS : va_S A H0 H locs) (hf : ∀ k, k < m2 → f k < n) (hi : ∀ i j, i < m2 → j < m2 → f i = f j → i = j)
    (kk : ∀ (o : Outcome) (E1 : Nat → va_E) (H1 : Heap) (locs1 : List Loc), post o E1 → va_D A (wW n ad (wU m2 f E E1)) → va_P D vwCl (wW n ad (wU m2 f E E1)) H1 → va_S A H0 H1 locs1 →
      ∀ T' : State, T'.heap = H1 → Stand p l e R s m args below meth c T' locs1 cells slots → ∃ g2 : State, (∀ v, o = .returned v → g2 = T'.setTop (F0 m (pc + 3) ls (v.toList ++ rest))) ∧ (∀ x, o = .threw x → g2 = (T'.setTop (F0 m pc ls rest)).pushFrame (.throwing x)) ∧ ∃ t, Steps p.tables e below g2 t ∧ Q t) :
    W p l e R s m args below meth c H locs cells slots Q (F0 m pc ls st0) := by
  intro T hT X
  obtain ⟨o, st₀, t, T', L, h0, X', hL, e1, e2, ⟨⟨E1, hp, hP1⟩, hz, hk⟩, hret, hthr⟩ := hr T hT X
  rw [h0] at hz hk
  have hsub : ∀ q, Aw m2 (fun k => ad (f k)) q → A q := fun q ⟨k, h1, h2⟩ => by rw [h2]; exact wW_in hD (hf k h1)
  have hPn : va_P D vwCl (wW n ad (wU m2 f E E1)) t.heap := wW_back hP hD hf hi (fun q h1 h2 => hk q h1 (fun ⟨k, h3, h4⟩ => h2 (Or.inl ⟨k, E (f k), by rw [wW_get h3 rfl, h4]⟩))) hP1
  have hSn : va_S A H0 T'.heap (locs ++ L) := ⟨Nat.le_trans hS.1 (by rw [e1]; exact hz), fun q h1 h2 => by rw [e1, hk q (Nat.lt_of_lt_of_le h1 hS.1) (fun z => h2 (hsub q z))]; exact hS.2.1 q h1 h2, fun q hq => by
    rcases List.mem_append.mp hq with h | h
    · exact hS.2.2 q h
    · exact hsub _ (hL q h)⟩
  obtain ⟨g2, g3, g4, t2, a1, b1⟩ := kk o E1 T'.heap (locs ++ L) hp (wW_D hD) (by rw [e1]; exact hPn) hSn T' rfl X'
  cases o with
  | returned v => exact ⟨t2, hret v rfl t2 (by rw [← g3 v rfl]; exact a1), b1⟩
  | threw x => exact ⟨t2, hthr x rfl t2 (by rw [← g4 x rfl]; exact a1), b1⟩
theorem x_i {m2 : Nat} {f : Nat → Nat} {a : Array Value} (hr : XRun p l e R s m args below meth c H locs cells slots 0 0 pc ls st0 rest (CtQ D m2 (fun k => ad (f k)) post a) (Aw m2 (fun k => ad (f k)))) (hD : va_D A (wW n ad E)) (hP : va_P D vwCl (wW n ad E) H) (hS : va_S A H0 H locs) (hf : ∀ k, k < m2 → f k < n) (hi : ∀ i j, i < m2 → j < m2 → f i = f j → i = j)
    (ho : ∀ o E1, post o E1 → ∃ r : Int32, o = .returned (some (.int r)))
    (kk : ∀ (r : Int32) (E1 : Nat → va_E) (H1 : Heap) (locs1 : List Loc), post (.returned (some (.int r))) E1 → va_D A (wW n ad (wU m2 f E E1)) → va_P D vwCl (wW n ad (wU m2 f E E1)) H1 → va_S A H0 H1 locs1 → W p l e R s m args below meth c H1 locs1 cells slots Q (F0 m (pc + 3) ls (.int r :: rest))) :
    W p l e R s m args below meth c H locs cells slots Q (F0 m pc ls st0) := by
  refine x_go hr hD hP hS hf hi (fun o E1 H1 locs1 hp h1 h2 h3 T' hT X' => ?_)
  obtain ⟨r, rfl⟩ := ho o E1 hp
  obtain ⟨t, a1, b1⟩ := kk r E1 H1 locs1 hp h1 h2 h3 T' hT X'
  exact ⟨_, fun v hv => (by cases hv; rfl), fun x hx => (by cases hx), t, a1, b1⟩
theorem x_l {m2 : Nat} {f : Nat → Nat} {a : Array Value} (hr : XRun p l e R s m args below meth c H locs cells slots 0 0 pc ls st0 rest (CtQ D m2 (fun k => ad (f k)) post a) (Aw m2 (fun k => ad (f k)))) (hD : va_D A (wW n ad E)) (hP : va_P D vwCl (wW n ad E) H) (hS : va_S A H0 H locs) (hf : ∀ k, k < m2 → f k < n) (hi : ∀ i j, i < m2 → j < m2 → f i = f j → i = j)
    (ho : ∀ o E1, post o E1 → ∃ r : Int64, o = .returned (some (.long r)))
    (kk : ∀ (r : Int64) (E1 : Nat → va_E) (H1 : Heap) (locs1 : List Loc), post (.returned (some (.long r))) E1 → va_D A (wW n ad (wU m2 f E E1)) → va_P D vwCl (wW n ad (wU m2 f E E1)) H1 → va_S A H0 H1 locs1 → W p l e R s m args below meth c H1 locs1 cells slots Q (F0 m (pc + 3) ls (.long r :: rest))) :
    W p l e R s m args below meth c H locs cells slots Q (F0 m pc ls st0) := by
  refine x_go hr hD hP hS hf hi (fun o E1 H1 locs1 hp h1 h2 h3 T' hT X' => ?_)
  obtain ⟨r, rfl⟩ := ho o E1 hp
  obtain ⟨t, a1, b1⟩ := kk r E1 H1 locs1 hp h1 h2 h3 T' hT X'
  exact ⟨_, fun v hv => (by cases hv; rfl), fun x hx => (by cases hx), t, a1, b1⟩
theorem x_v {m2 : Nat} {f : Nat → Nat} {a : Array Value} (hr : XRun p l e R s m args below meth c H locs cells slots 0 0 pc ls st0 rest (CtQ D m2 (fun k => ad (f k)) post a) (Aw m2 (fun k => ad (f k)))) (hD : va_D A (wW n ad E)) (hP : va_P D vwCl (wW n ad E) H) (hS : va_S A H0 H locs) (hf : ∀ k, k < m2 → f k < n) (hi : ∀ i j, i < m2 → j < m2 → f i = f j → i = j)
    (ho : ∀ o E1, post o E1 → o = .returned none)
    (kk : ∀ (E1 : Nat → va_E) (H1 : Heap) (locs1 : List Loc), post (.returned none) E1 → va_D A (wW n ad (wU m2 f E E1)) → va_P D vwCl (wW n ad (wU m2 f E E1)) H1 → va_S A H0 H1 locs1 → W p l e R s m args below meth c H1 locs1 cells slots Q (F0 m (pc + 3) ls rest)) :
    W p l e R s m args below meth c H locs cells slots Q (F0 m pc ls st0) := by
  refine x_go hr hD hP hS hf hi (fun o E1 H1 locs1 hp h1 h2 h3 T' hT X' => ?_)
  have hq := ho o E1 hp
  subst hq
  obtain ⟨t, a1, b1⟩ := kk E1 H1 locs1 hp h1 h2 h3 T' hT X'
  exact ⟨_, fun v hv => (by cases hv; rfl), fun x hx => (by cases hx), t, a1, b1⟩
theorem x_r {m2 : Nat} {f : Nat → Nat} {a : Array Value} (hr : XRun p l e R s m args below meth c H locs cells slots 0 0 pc ls st0 rest (CtQ D m2 (fun k => ad (f k)) post a) (Aw m2 (fun k => ad (f k)))) (hD : va_D A (wW n ad E)) (hP : va_P D vwCl (wW n ad E) H) (hS : va_S A H0 H locs) (hf : ∀ k, k < m2 → f k < n) (hi : ∀ i j, i < m2 → j < m2 → f i = f j → i = j)
    (ho : ∀ o E1, post o E1 → ∃ r : Nat, o = .returned (some (.ref r)))
    (kk : ∀ (r : Nat) (E1 : Nat → va_E) (H1 : Heap) (locs1 : List Loc), post (.returned (some (.ref r))) E1 → va_D A (wW n ad (wU m2 f E E1)) → va_P D vwCl (wW n ad (wU m2 f E E1)) H1 → va_S A H0 H1 locs1 → W p l e R s m args below meth c H1 locs1 cells slots Q (F0 m (pc + 3) ls (.ref r :: rest))) :
    W p l e R s m args below meth c H locs cells slots Q (F0 m pc ls st0) := by
  refine x_go hr hD hP hS hf hi (fun o E1 H1 locs1 hp h1 h2 h3 T' hT X' => ?_)
  obtain ⟨r, rfl⟩ := ho o E1 hp
  obtain ⟨t, a1, b1⟩ := kk r E1 H1 locs1 hp h1 h2 h3 T' hT X'
  exact ⟨_, fun v hv => (by cases hv; rfl), fun x hx => (by cases hx), t, a1, b1⟩
end XC
-- readers, with their answer known
section XR
variable {p : Program} {l : Launch} {e : Env} {R : Room} {s : State} {m : MethodId} {args : Array Value} {below : List Frame} {meth : Method} {c : Code} {H : Heap} {locs : List Loc} {cells slots : Nat} {Q : State → Prop}
variable {cc : ByteArray} {nL pc n : Nat} {own : String} {D : va_G} {tc : Nat → ClassId} {ad : Nat → Nat} {E : Nat → va_E} {A : Nat → Prop} {H0 : Heap} {ls : Array Slot} {rest st0 As : List Value} {post : Outcome → (Nat → va_E) → Prop}
theorem wU_same {m2 : Nat} {f : Nat → Nat} {E E1 : Nat → va_E} (h : E1 = fun k => E (f k)) : wU m2 f E E1 = E := by
  funext j
  unfold wU
  cases hfd : (List.range m2).find? (fun x => f x == j) with
  | none => rfl
  | some k =>
    have h1 := List.find?_some hfd
    have h3 : f k = j := by simpa using h1
    show E1 k = E j
    rw [h, ← h3]
theorem x_iE {m2 : Nat} {f : Nat → Nat} {a : Array Value} {v : Int32} (hr : XRun p l e R s m args below meth c H locs cells slots 0 0 pc ls st0 rest (CtQ D m2 (fun k => ad (f k)) (fun o E' => o = .returned (some (.int v)) ∧ E' = fun k => E (f k)) a) (Aw m2 (fun k => ad (f k)))) (hD : va_D A (wW n ad E)) (hP : va_P D vwCl (wW n ad E) H) (hS : va_S A H0 H locs) (hf : ∀ k, k < m2 → f k < n) (hi : ∀ i j, i < m2 → j < m2 → f i = f j → i = j)
    (kk : ∀ (H1 : Heap) (locs1 : List Loc), va_D A (wW n ad E) → va_P D vwCl (wW n ad E) H1 → va_S A H0 H1 locs1 → W p l e R s m args below meth c H1 locs1 cells slots Q (F0 m (pc + 3) ls (.int v :: rest))) :
    W p l e R s m args below meth c H locs cells slots Q (F0 m pc ls st0) := by
  refine x_i hr hD hP hS hf hi (fun o E1 h => ⟨v, h.1⟩) (fun r E1 H1 locs1 hp h1 h2 h3 => ?_)
  rw [wU_same hp.2] at h1 h2
  have hv : r = v := by have := hp.1; injection this with this; injection this with this; injection this
  rw [hv]
  exact kk H1 locs1 h1 h2 h3
theorem x_lE {m2 : Nat} {f : Nat → Nat} {a : Array Value} {v : Int64} (hr : XRun p l e R s m args below meth c H locs cells slots 0 0 pc ls st0 rest (CtQ D m2 (fun k => ad (f k)) (fun o E' => o = .returned (some (.long v)) ∧ E' = fun k => E (f k)) a) (Aw m2 (fun k => ad (f k)))) (hD : va_D A (wW n ad E)) (hP : va_P D vwCl (wW n ad E) H) (hS : va_S A H0 H locs) (hf : ∀ k, k < m2 → f k < n) (hi : ∀ i j, i < m2 → j < m2 → f i = f j → i = j)
    (kk : ∀ (H1 : Heap) (locs1 : List Loc), va_D A (wW n ad E) → va_P D vwCl (wW n ad E) H1 → va_S A H0 H1 locs1 → W p l e R s m args below meth c H1 locs1 cells slots Q (F0 m (pc + 3) ls (.long v :: rest))) :
    W p l e R s m args below meth c H locs cells slots Q (F0 m pc ls st0) := by
  refine x_l hr hD hP hS hf hi (fun o E1 h => ⟨v, h.1⟩) (fun r E1 H1 locs1 hp h1 h2 h3 => ?_)
  rw [wU_same hp.2] at h1 h2
  have hv : r = v := by have := hp.1; injection this with this; injection this with this; injection this
  rw [hv]
  exact kk H1 locs1 h1 h2 h3
theorem x_rE {m2 : Nat} {f : Nat → Nat} {a : Array Value} {v : Nat} (hr : XRun p l e R s m args below meth c H locs cells slots 0 0 pc ls st0 rest (CtQ D m2 (fun k => ad (f k)) (fun o E' => o = .returned (some (.ref v)) ∧ E' = fun k => E (f k)) a) (Aw m2 (fun k => ad (f k)))) (hD : va_D A (wW n ad E)) (hP : va_P D vwCl (wW n ad E) H) (hS : va_S A H0 H locs) (hf : ∀ k, k < m2 → f k < n) (hi : ∀ i j, i < m2 → j < m2 → f i = f j → i = j)
    (kk : ∀ (H1 : Heap) (locs1 : List Loc), va_D A (wW n ad E) → va_P D vwCl (wW n ad E) H1 → va_S A H0 H1 locs1 → W p l e R s m args below meth c H1 locs1 cells slots Q (F0 m (pc + 3) ls (.ref v :: rest))) :
    W p l e R s m args below meth c H locs cells slots Q (F0 m pc ls st0) := by
  refine x_r hr hD hP hS hf hi (fun o E1 h => ⟨v, h.1⟩) (fun r E1 H1 locs1 hp h1 h2 h3 => ?_)
  rw [wU_same hp.2] at h1 h2
  have hv : r = v := by have := hp.1; injection this with this; injection this with this; injection this
  rw [hv]
  exact kk H1 locs1 h1 h2 h3
/-- the receiver of a call -/
theorem x_recv {k ci : Nat} {fs : List Value} {C : String} {T : u_T} {N : Nat} (X : Cx p s m args c cc nL own D tc) (hP : va_P D vwCl (wW n ad E) H) (hk : k < n) (hE : E k = .inr (ci, fs)) (hc : vwCl[ci]? = some (C, T, N)) :
    ∃ cellB : Cell, H[ad k]? = some cellB ∧ cellB.vm.isStatics = false ∧ s.vm.findClass C = some cellB.cls := by
  obtain ⟨r, h1, cell, q1, q2, q3, -⟩ := hP k _ (wW_get hk hE)
  have hr : r = (C, T, N) := Option.some.inj (h1.symm.trans hc)
  subst hr
  have hKn := X.2.2.2.2.2.1 ci _ hc
  exact ⟨cell, q1, by rw [q3]; rfl, by rw [q2]; exact hKn.2.1⟩
theorem fr_lt (d n : Nat) (b : Nat) (h : b + d ≤ n) : ∀ k, k < d → (fun k => b + k) k < n := fun k hk => by show b + k < n; omega
theorem fr_inj (d b : Nat) : ∀ i j, i < d → j < d → (fun k => b + k) i = (fun k => b + k) j → i = j := fun i j _ _ h => by have h' : b + i = b + j := h; omega
end XR
section XS
variable {p : Program} {l : Launch} {e : Env} {R : Room} {s : State} {m : MethodId} {args : Array Value} {below : List Frame} {meth : Method} {c : Code} {H : Heap} {locs : List Loc} {cells slots : Nat} {Q : State → Prop}
variable {cc : ByteArray} {nL pc n : Nat} {own : String} {D : va_G} {tc : Nat → ClassId} {ad : Nat → Nat} {E : Nat → va_E} {A : Nat → Prop} {H0 : Heap} {ls : Array Slot} {rest st0 As : List Value}
theorem x_iX {m2 : Nat} {f : Nat → Nat} {a : Array Value} {pr : Int32 → Prop} (hr : XRun p l e R s m args below meth c H locs cells slots 0 0 pc ls st0 rest (CtQ D m2 (fun k => ad (f k)) (fun o E' => ∃ r : Int32, o = .returned (some (.int r)) ∧ E' = (fun k => E (f k)) ∧ pr r) a) (Aw m2 (fun k => ad (f k)))) (hD : va_D A (wW n ad E)) (hP : va_P D vwCl (wW n ad E) H) (hS : va_S A H0 H locs) (hf : ∀ k, k < m2 → f k < n) (hi : ∀ i j, i < m2 → j < m2 → f i = f j → i = j)
    (kk : ∀ (r : Int32) (H1 : Heap) (locs1 : List Loc), pr r → va_D A (wW n ad E) → va_P D vwCl (wW n ad E) H1 → va_S A H0 H1 locs1 → W p l e R s m args below meth c H1 locs1 cells slots Q (F0 m (pc + 3) ls (.int r :: rest))) :
    W p l e R s m args below meth c H locs cells slots Q (F0 m pc ls st0) := by
  refine x_i hr hD hP hS hf hi (fun o E1 h => by obtain ⟨r, h1, -⟩ := h; exact ⟨r, h1⟩) (fun r E1 H1 locs1 hp h1 h2 h3 => ?_)
  obtain ⟨r', hr', he, hp⟩ := hp
  rw [wU_same he] at h1 h2
  have hv : r = r' := by injection hr' with this; injection this with this; injection this
  rw [hv]
  exact kk r' H1 locs1 hp h1 h2 h3
end XS
end
section
theorem w_0 : (Jvm.Cond.initialized "RaceWatchLaw") ∈ WS := ws_in (List.mem_append_right _ (List.mem_append_left _ (List.mem_of_getElem? (i := 0) rfl))) (by decide +kernel)
theorem w_1 : (Jvm.Cond.initialized "RaceWatch") ∈ WS := ws_in (List.mem_append_right _ (List.mem_append_left _ (List.mem_of_getElem? (i := 1) rfl))) (by decide +kernel)
theorem w_2 : (Jvm.Cond.initialized "RaceWatch$Program") ∈ WS := ws_in (List.mem_append_right _ (List.mem_append_left _ (List.mem_of_getElem? (i := 2) rfl))) (by decide +kernel)
theorem w_3 : (Jvm.Cond.initialized "RaceWatch$Worker") ∈ WS := ws_in (List.mem_append_right _ (List.mem_append_left _ (List.mem_of_getElem? (i := 3) rfl))) (by decide +kernel)
theorem w_4 : (Jvm.Cond.initialized "RaceWatch$Clock") ∈ WS := ws_in (List.mem_append_right _ (List.mem_append_left _ (List.mem_of_getElem? (i := 4) rfl))) (by decide +kernel)
theorem w_5 : (Jvm.Cond.initialized "RaceWatch$Lock") ∈ WS := ws_in (List.mem_append_right _ (List.mem_append_left _ (List.mem_of_getElem? (i := 5) rfl))) (by decide +kernel)
theorem w_6 : (Jvm.Cond.initialized "RaceWatch$Trace") ∈ WS := ws_in (List.mem_append_right _ (List.mem_append_left _ (List.mem_of_getElem? (i := 6) rfl))) (by decide +kernel)
theorem w_7 : (Jvm.Cond.initialized "RaceWatch$RaceBook") ∈ WS := ws_in (List.mem_append_right _ (List.mem_append_left _ (List.mem_of_getElem? (i := 7) rfl))) (by decide +kernel)
theorem w_8 : (Jvm.Cond.initialized "java/util/Arrays") ∈ WS := ws_in (List.mem_append_right _ (List.mem_append_left _ (List.mem_of_getElem? (i := 8) rfl))) (by decide +kernel)
theorem w_9 : (Jvm.Cond.initialized "RaceWatchModel") ∈ WS := ws_in (List.mem_append_right _ (List.mem_append_left _ (List.mem_of_getElem? (i := 9) rfl))) (by decide +kernel)
theorem w_10 : (Jvm.Cond.initialized "java/lang/Throwable") ∈ WS := ws_in (List.mem_append_right _ (List.mem_append_left _ (List.mem_of_getElem? (i := 10) rfl))) (by decide +kernel)
theorem w_11 : (Jvm.Cond.initialized "java/lang/Exception") ∈ WS := ws_in (List.mem_append_right _ (List.mem_append_left _ (List.mem_of_getElem? (i := 11) rfl))) (by decide +kernel)
theorem w_12 : (Jvm.Cond.initialized "java/lang/RuntimeException") ∈ WS := ws_in (List.mem_append_right _ (List.mem_append_left _ (List.mem_of_getElem? (i := 12) rfl))) (by decide +kernel)
theorem w_13 : (Jvm.Cond.initialized "java/lang/IllegalStateException") ∈ WS := ws_in (List.mem_append_right _ (List.mem_append_left _ (List.mem_of_getElem? (i := 13) rfl))) (by decide +kernel)
theorem w_14 : (Jvm.Cond.initialized "java/lang/IllegalArgumentException") ∈ WS := ws_in (List.mem_append_right _ (List.mem_append_left _ (List.mem_of_getElem? (i := 14) rfl))) (by decide +kernel)
theorem w_15 : (Jvm.Cond.initialized "java/lang/IndexOutOfBoundsException") ∈ WS := ws_in (List.mem_append_right _ (List.mem_append_left _ (List.mem_of_getElem? (i := 15) rfl))) (by decide +kernel)
theorem w_16 : (Jvm.Cond.initialized "java/lang/UnsupportedOperationException") ∈ WS := ws_in (List.mem_append_right _ (List.mem_append_left _ (List.mem_of_getElem? (i := 16) rfl))) (by decide +kernel)
theorem w_17 : (Jvm.Cond.initialized "java/lang/Math") ∈ WS := ws_in (List.mem_append_right _ (List.mem_append_left _ (List.mem_of_getElem? (i := 17) rfl))) (by decide +kernel)
theorem w_18 : (Jvm.Cond.initialized "java/lang/System") ∈ WS := ws_in (List.mem_append_right _ (List.mem_append_left _ (List.mem_of_getElem? (i := 18) rfl))) (by decide +kernel)
theorem w_19 : (Jvm.Cond.initialized "java/lang/Integer") ∈ WS := ws_in (List.mem_append_right _ (List.mem_append_left _ (List.mem_of_getElem? (i := 19) rfl))) (by decide +kernel)
theorem w_20 : (Jvm.Cond.classLink "RaceWatchLaw" (8 : Nat) "RaceWatch") ∈ WS := ws_in (List.mem_append_right _ (List.mem_append_left _ (List.mem_of_getElem? (i := 20) rfl))) (by decide +kernel)
theorem w_21 : (Jvm.Cond.instantiable "RaceWatch" (9 : Nat)) ∈ WS := ws_in (List.mem_append_right _ (List.mem_append_left _ (List.mem_of_getElem? (i := 21) rfl))) (by decide +kernel)
theorem w_22 : (Jvm.Cond.methodLink "RaceWatchLaw" (25 : Nat) ({ cls := "RaceWatch", name := "<init>", desc := "()V" } : Jvm.MethodName)) ∈ WS := ws_in (List.mem_append_right _ (List.mem_append_left _ (List.mem_of_getElem? (i := 22) rfl))) (by decide +kernel)
theorem w_23 : (Jvm.Cond.instanceMethod ({ cls := "RaceWatch", name := "<init>", desc := "()V" } : Jvm.MethodName)) ∈ WS := ws_in (List.mem_append_right _ (List.mem_append_left _ (List.mem_of_getElem? (i := 23) rfl))) (by decide +kernel)
theorem w_24 : (Jvm.Cond.code ({ cls := "RaceWatch", name := "<init>", desc := "()V" } : Jvm.MethodName) prog_1_method_1_code (2 : Nat) (Option.none : Option FieldType)) ∈ WS := ws_in (List.mem_append_right _ (List.mem_append_left _ (List.mem_of_getElem? (i := 24) rfl))) (by decide +kernel)
theorem w_25 : (Jvm.Cond.methodLink "RaceWatch" (1 : Nat) ({ cls := "java/lang/Object", name := "<init>", desc := "()V" } : Jvm.MethodName)) ∈ WS := ws_in (List.mem_append_right _ (List.mem_append_left _ (List.mem_of_getElem? (i := 25) rfl))) (by decide +kernel)
theorem w_26 : (Jvm.Cond.instanceMethod ({ cls := "java/lang/Object", name := "<init>", desc := "()V" } : Jvm.MethodName)) ∈ WS := ws_in (List.mem_append_right _ (List.mem_append_left _ (List.mem_of_getElem? (i := 26) rfl))) (by decide +kernel)
theorem w_27 : (Jvm.Cond.code ({ cls := "java/lang/Object", name := "<init>", desc := "()V" } : Jvm.MethodName) object_method_1_code (1 : Nat) (Option.none : Option FieldType)) ∈ WS := ws_in (List.mem_append_right _ (List.mem_append_left _ (List.mem_of_getElem? (i := 27) rfl))) (by decide +kernel)
theorem w_28 : (Jvm.Cond.classLink "RaceWatch" (9 : Nat) "RaceWatch$Program") ∈ WS := ws_in (List.mem_append_right _ (List.mem_append_left _ (List.mem_of_getElem? (i := 28) rfl))) (by decide +kernel)
theorem w_29 : (Jvm.Cond.arrayOver (FieldType.object "RaceWatch$Program")) ∈ WS := ws_in (List.mem_append_right _ (List.mem_append_left _ (List.mem_of_getElem? (i := 29) rfl))) (by decide +kernel)
theorem w_30 : (Jvm.Cond.classLink "RaceWatch" (15 : Nat) "RaceWatch$Worker") ∈ WS := ws_in (List.mem_append_right _ (List.mem_append_left _ (List.mem_of_getElem? (i := 30) rfl))) (by decide +kernel)
theorem w_31 : (Jvm.Cond.arrayOver (FieldType.object "RaceWatch$Worker")) ∈ WS := ws_in (List.mem_append_right _ (List.mem_append_left _ (List.mem_of_getElem? (i := 31) rfl))) (by decide +kernel)
theorem w_32 : (Jvm.Cond.instantiable "RaceWatch$Program" (4 : Nat)) ∈ WS := ws_in (List.mem_append_right _ (List.mem_append_left _ (List.mem_of_getElem? (i := 32) rfl))) (by decide +kernel)
theorem w_33 : (Jvm.Cond.methodLinkNest "RaceWatch" (21 : Nat) ({ cls := "RaceWatch$Program", name := "<init>", desc := "()V" } : Jvm.MethodName) "RaceWatch") ∈ WS := ws_in (List.mem_append_right _ (List.mem_append_left _ (List.mem_of_getElem? (i := 33) rfl))) (by decide +kernel)
theorem w_34 : (Jvm.Cond.instanceMethod ({ cls := "RaceWatch$Program", name := "<init>", desc := "()V" } : Jvm.MethodName)) ∈ WS := ws_in (List.mem_append_right _ (List.mem_append_left _ (List.mem_of_getElem? (i := 34) rfl))) (by decide +kernel)
theorem w_35 : (Jvm.Cond.code ({ cls := "RaceWatch$Program", name := "<init>", desc := "()V" } : Jvm.MethodName) prog_4_method_1_code (1 : Nat) (Option.none : Option FieldType)) ∈ WS := ws_in (List.mem_append_right _ (List.mem_append_left _ (List.mem_of_getElem? (i := 35) rfl))) (by decide +kernel)
theorem w_36 : (Jvm.Cond.methodLink "RaceWatch$Program" (3 : Nat) ({ cls := "java/lang/Object", name := "<init>", desc := "()V" } : Jvm.MethodName)) ∈ WS := ws_in (List.mem_append_right _ (List.mem_append_left _ (List.mem_of_getElem? (i := 36) rfl))) (by decide +kernel)
theorem w_37 : (Jvm.Cond.fieldLink "RaceWatch$Program" (9 : Nat) "RaceWatch$Program" "ops" "[I") ∈ WS := ws_in (List.mem_append_right _ (List.mem_append_left _ (List.mem_of_getElem? (i := 37) rfl))) (by decide +kernel)
theorem w_38 : (Jvm.Cond.fieldLinkNest "RaceWatch" (105 : Nat) "RaceWatch$Program" "ops" "[I" "RaceWatch") ∈ WS := ws_in (List.mem_append_right _ (List.mem_append_left _ (List.mem_of_getElem? (i := 38) rfl))) (by decide +kernel)
theorem w_39 : (Jvm.Cond.fieldLink "RaceWatch$Program" (15 : Nat) "RaceWatch$Program" "as" "[I") ∈ WS := ws_in (List.mem_append_right _ (List.mem_append_left _ (List.mem_of_getElem? (i := 39) rfl))) (by decide +kernel)
theorem w_40 : (Jvm.Cond.fieldLinkNest "RaceWatch" (112 : Nat) "RaceWatch$Program" "as" "[I" "RaceWatch") ∈ WS := ws_in (List.mem_append_right _ (List.mem_append_left _ (List.mem_of_getElem? (i := 40) rfl))) (by decide +kernel)
theorem w_41 : (Jvm.Cond.fieldLink "RaceWatch$Program" (18 : Nat) "RaceWatch$Program" "bs" "[I") ∈ WS := ws_in (List.mem_append_right _ (List.mem_append_left _ (List.mem_of_getElem? (i := 41) rfl))) (by decide +kernel)
theorem w_42 : (Jvm.Cond.fieldLinkNest "RaceWatch" (202 : Nat) "RaceWatch$Program" "bs" "[I" "RaceWatch") ∈ WS := ws_in (List.mem_append_right _ (List.mem_append_left _ (List.mem_of_getElem? (i := 42) rfl))) (by decide +kernel)
theorem w_43 : (Jvm.Cond.fieldLink "RaceWatch$Program" (21 : Nat) "RaceWatch$Program" "size" "I") ∈ WS := ws_in (List.mem_append_right _ (List.mem_append_left _ (List.mem_of_getElem? (i := 43) rfl))) (by decide +kernel)
theorem w_44 : (Jvm.Cond.fieldLinkNest "RaceWatch" (196 : Nat) "RaceWatch$Program" "size" "I" "RaceWatch") ∈ WS := ws_in (List.mem_append_right _ (List.mem_append_left _ (List.mem_of_getElem? (i := 44) rfl))) (by decide +kernel)
theorem w_45 : (Jvm.Cond.laysFinal "RaceWatch$Program" "RaceWatch$Program" "ops" "[I") ∈ WS := ws_in (List.mem_append_right _ (List.mem_append_left _ (List.mem_of_getElem? (i := 45) rfl))) (by decide +kernel)
theorem w_46 : (Jvm.Cond.laysFinal "RaceWatch$Program" "RaceWatch$Program" "as" "[I") ∈ WS := ws_in (List.mem_append_right _ (List.mem_append_left _ (List.mem_of_getElem? (i := 47) rfl))) (by decide +kernel)
theorem w_47 : (Jvm.Cond.laysFinal "RaceWatch$Program" "RaceWatch$Program" "bs" "[I") ∈ WS := ws_in (List.mem_append_right _ (List.mem_append_left _ (List.mem_of_getElem? (i := 49) rfl))) (by decide +kernel)
theorem w_48 : (Jvm.Cond.lays "RaceWatch$Program" "RaceWatch$Program" "size" "I") ∈ WS := ws_in (List.mem_append_right _ (List.mem_append_left _ (List.mem_of_getElem? (i := 51) rfl))) (by decide +kernel)
theorem w_49 : (Jvm.Cond.arrayClass FieldType.int) ∈ WS := ws_in (List.mem_append_right _ (List.mem_append_left _ (List.mem_of_getElem? (i := 54) rfl))) (by decide +kernel)
theorem w_50 : (Jvm.Cond.instantiable "RaceWatch$Worker" (4 : Nat)) ∈ WS := ws_in (List.mem_append_right _ (List.mem_append_left _ (List.mem_of_getElem? (i := 55) rfl))) (by decide +kernel)
theorem w_51 : (Jvm.Cond.methodLinkNest "RaceWatch" (22 : Nat) ({ cls := "RaceWatch$Worker", name := "<init>", desc := "()V" } : Jvm.MethodName) "RaceWatch") ∈ WS := ws_in (List.mem_append_right _ (List.mem_append_left _ (List.mem_of_getElem? (i := 56) rfl))) (by decide +kernel)
theorem w_52 : (Jvm.Cond.instanceMethod ({ cls := "RaceWatch$Worker", name := "<init>", desc := "()V" } : Jvm.MethodName)) ∈ WS := ws_in (List.mem_append_right _ (List.mem_append_left _ (List.mem_of_getElem? (i := 57) rfl))) (by decide +kernel)
theorem w_53 : (Jvm.Cond.code ({ cls := "RaceWatch$Worker", name := "<init>", desc := "()V" } : Jvm.MethodName) prog_7_method_1_code (1 : Nat) (Option.none : Option FieldType)) ∈ WS := ws_in (List.mem_append_right _ (List.mem_append_left _ (List.mem_of_getElem? (i := 58) rfl))) (by decide +kernel)
theorem w_54 : (Jvm.Cond.methodLink "RaceWatch$Worker" (3 : Nat) ({ cls := "java/lang/Object", name := "<init>", desc := "()V" } : Jvm.MethodName)) ∈ WS := ws_in (List.mem_append_right _ (List.mem_append_left _ (List.mem_of_getElem? (i := 59) rfl))) (by decide +kernel)
theorem w_55 : (Jvm.Cond.classLink "RaceWatch$Worker" (9 : Nat) "RaceWatch$Clock") ∈ WS := ws_in (List.mem_append_right _ (List.mem_append_left _ (List.mem_of_getElem? (i := 60) rfl))) (by decide +kernel)
theorem w_56 : (Jvm.Cond.instantiable "RaceWatch$Clock" (1 : Nat)) ∈ WS := ws_in (List.mem_append_right _ (List.mem_append_left _ (List.mem_of_getElem? (i := 61) rfl))) (by decide +kernel)
theorem w_57 : (Jvm.Cond.methodLinkNest "RaceWatch$Worker" (11 : Nat) ({ cls := "RaceWatch$Clock", name := "<init>", desc := "()V" } : Jvm.MethodName) "RaceWatch") ∈ WS := ws_in (List.mem_append_right _ (List.mem_append_left _ (List.mem_of_getElem? (i := 62) rfl))) (by decide +kernel)
theorem w_58 : (Jvm.Cond.instanceMethod ({ cls := "RaceWatch$Clock", name := "<init>", desc := "()V" } : Jvm.MethodName)) ∈ WS := ws_in (List.mem_append_right _ (List.mem_append_left _ (List.mem_of_getElem? (i := 63) rfl))) (by decide +kernel)
theorem w_59 : (Jvm.Cond.code ({ cls := "RaceWatch$Clock", name := "<init>", desc := "()V" } : Jvm.MethodName) prog_2_method_1_code (1 : Nat) (Option.none : Option FieldType)) ∈ WS := ws_in (List.mem_append_right _ (List.mem_append_left _ (List.mem_of_getElem? (i := 64) rfl))) (by decide +kernel)
theorem w_60 : (Jvm.Cond.methodLink "RaceWatch$Clock" (3 : Nat) ({ cls := "java/lang/Object", name := "<init>", desc := "()V" } : Jvm.MethodName)) ∈ WS := ws_in (List.mem_append_right _ (List.mem_append_left _ (List.mem_of_getElem? (i := 65) rfl))) (by decide +kernel)
theorem w_61 : (Jvm.Cond.fieldLink "RaceWatch$Clock" (9 : Nat) "RaceWatch$Clock" "counts" "[I") ∈ WS := ws_in (List.mem_append_right _ (List.mem_append_left _ (List.mem_of_getElem? (i := 66) rfl))) (by decide +kernel)
theorem w_62 : (Jvm.Cond.fieldLinkNest "RaceWatch$Trace" (22 : Nat) "RaceWatch$Clock" "counts" "[I" "RaceWatch") ∈ WS := ws_in (List.mem_append_right _ (List.mem_append_left _ (List.mem_of_getElem? (i := 67) rfl))) (by decide +kernel)
theorem w_63 : (Jvm.Cond.laysFinal "RaceWatch$Clock" "RaceWatch$Clock" "counts" "[I") ∈ WS := ws_in (List.mem_append_right _ (List.mem_append_left _ (List.mem_of_getElem? (i := 68) rfl))) (by decide +kernel)
theorem w_64 : (Jvm.Cond.fieldLink "RaceWatch$Worker" (12 : Nat) "RaceWatch$Worker" "clock" "LRaceWatch$Clock;") ∈ WS := ws_in (List.mem_append_right _ (List.mem_append_left _ (List.mem_of_getElem? (i := 71) rfl))) (by decide +kernel)
theorem w_65 : (Jvm.Cond.fieldLinkNest "RaceWatch" (214 : Nat) "RaceWatch$Worker" "clock" "LRaceWatch$Clock;" "RaceWatch") ∈ WS := ws_in (List.mem_append_right _ (List.mem_append_left _ (List.mem_of_getElem? (i := 72) rfl))) (by decide +kernel)
theorem w_66 : (Jvm.Cond.fieldLink "RaceWatch$Worker" (18 : Nat) "RaceWatch$Worker" "phase" "I") ∈ WS := ws_in (List.mem_append_right _ (List.mem_append_left _ (List.mem_of_getElem? (i := 73) rfl))) (by decide +kernel)
theorem w_67 : (Jvm.Cond.fieldLinkNest "RaceWatch" (94 : Nat) "RaceWatch$Worker" "phase" "I" "RaceWatch") ∈ WS := ws_in (List.mem_append_right _ (List.mem_append_left _ (List.mem_of_getElem? (i := 74) rfl))) (by decide +kernel)
theorem w_68 : (Jvm.Cond.fieldLink "RaceWatch$Worker" (22 : Nat) "RaceWatch$Worker" "next" "I") ∈ WS := ws_in (List.mem_append_right _ (List.mem_append_left _ (List.mem_of_getElem? (i := 75) rfl))) (by decide +kernel)
theorem w_69 : (Jvm.Cond.fieldLinkNest "RaceWatch" (109 : Nat) "RaceWatch$Worker" "next" "I" "RaceWatch") ∈ WS := ws_in (List.mem_append_right _ (List.mem_append_left _ (List.mem_of_getElem? (i := 76) rfl))) (by decide +kernel)
theorem w_70 : (Jvm.Cond.fieldLink "RaceWatch$Worker" (25 : Nat) "RaceWatch$Worker" "register" "J") ∈ WS := ws_in (List.mem_append_right _ (List.mem_append_left _ (List.mem_of_getElem? (i := 77) rfl))) (by decide +kernel)
theorem w_71 : (Jvm.Cond.fieldLinkNest "RaceWatch" (142 : Nat) "RaceWatch$Worker" "register" "J" "RaceWatch") ∈ WS := ws_in (List.mem_append_right _ (List.mem_append_left _ (List.mem_of_getElem? (i := 78) rfl))) (by decide +kernel)
theorem w_72 : (Jvm.Cond.laysFinal "RaceWatch$Worker" "RaceWatch$Worker" "clock" "LRaceWatch$Clock;") ∈ WS := ws_in (List.mem_append_right _ (List.mem_append_left _ (List.mem_of_getElem? (i := 79) rfl))) (by decide +kernel)
theorem w_73 : (Jvm.Cond.lays "RaceWatch$Worker" "RaceWatch$Worker" "phase" "I") ∈ WS := ws_in (List.mem_append_right _ (List.mem_append_left _ (List.mem_of_getElem? (i := 81) rfl))) (by decide +kernel)
theorem w_74 : (Jvm.Cond.lays "RaceWatch$Worker" "RaceWatch$Worker" "next" "I") ∈ WS := ws_in (List.mem_append_right _ (List.mem_append_left _ (List.mem_of_getElem? (i := 83) rfl))) (by decide +kernel)
theorem w_75 : (Jvm.Cond.lays "RaceWatch$Worker" "RaceWatch$Worker" "register" "J") ∈ WS := ws_in (List.mem_append_right _ (List.mem_append_left _ (List.mem_of_getElem? (i := 85) rfl))) (by decide +kernel)
theorem w_76 : (Jvm.Cond.classLink "RaceWatch" (23 : Nat) "RaceWatch$Lock") ∈ WS := ws_in (List.mem_append_right _ (List.mem_append_left _ (List.mem_of_getElem? (i := 88) rfl))) (by decide +kernel)
theorem w_77 : (Jvm.Cond.arrayOver (FieldType.object "RaceWatch$Lock")) ∈ WS := ws_in (List.mem_append_right _ (List.mem_append_left _ (List.mem_of_getElem? (i := 89) rfl))) (by decide +kernel)
theorem w_78 : (Jvm.Cond.instantiable "RaceWatch$Lock" (3 : Nat)) ∈ WS := ws_in (List.mem_append_right _ (List.mem_append_left _ (List.mem_of_getElem? (i := 90) rfl))) (by decide +kernel)
theorem w_79 : (Jvm.Cond.methodLinkNest "RaceWatch" (29 : Nat) ({ cls := "RaceWatch$Lock", name := "<init>", desc := "()V" } : Jvm.MethodName) "RaceWatch") ∈ WS := ws_in (List.mem_append_right _ (List.mem_append_left _ (List.mem_of_getElem? (i := 91) rfl))) (by decide +kernel)
theorem w_80 : (Jvm.Cond.instanceMethod ({ cls := "RaceWatch$Lock", name := "<init>", desc := "()V" } : Jvm.MethodName)) ∈ WS := ws_in (List.mem_append_right _ (List.mem_append_left _ (List.mem_of_getElem? (i := 92) rfl))) (by decide +kernel)
theorem w_81 : (Jvm.Cond.code ({ cls := "RaceWatch$Lock", name := "<init>", desc := "()V" } : Jvm.MethodName) prog_3_method_1_code (1 : Nat) (Option.none : Option FieldType)) ∈ WS := ws_in (List.mem_append_right _ (List.mem_append_left _ (List.mem_of_getElem? (i := 93) rfl))) (by decide +kernel)
theorem w_82 : (Jvm.Cond.methodLink "RaceWatch$Lock" (3 : Nat) ({ cls := "java/lang/Object", name := "<init>", desc := "()V" } : Jvm.MethodName)) ∈ WS := ws_in (List.mem_append_right _ (List.mem_append_left _ (List.mem_of_getElem? (i := 94) rfl))) (by decide +kernel)
theorem w_83 : (Jvm.Cond.classLink "RaceWatch$Lock" (9 : Nat) "RaceWatch$Clock") ∈ WS := ws_in (List.mem_append_right _ (List.mem_append_left _ (List.mem_of_getElem? (i := 95) rfl))) (by decide +kernel)
theorem w_84 : (Jvm.Cond.methodLinkNest "RaceWatch$Lock" (11 : Nat) ({ cls := "RaceWatch$Clock", name := "<init>", desc := "()V" } : Jvm.MethodName) "RaceWatch") ∈ WS := ws_in (List.mem_append_right _ (List.mem_append_left _ (List.mem_of_getElem? (i := 96) rfl))) (by decide +kernel)
theorem w_85 : (Jvm.Cond.fieldLink "RaceWatch$Lock" (12 : Nat) "RaceWatch$Lock" "clock" "LRaceWatch$Clock;") ∈ WS := ws_in (List.mem_append_right _ (List.mem_append_left _ (List.mem_of_getElem? (i := 97) rfl))) (by decide +kernel)
theorem w_86 : (Jvm.Cond.fieldLink "RaceWatch$Lock" (18 : Nat) "RaceWatch$Lock" "owner" "I") ∈ WS := ws_in (List.mem_append_right _ (List.mem_append_left _ (List.mem_of_getElem? (i := 98) rfl))) (by decide +kernel)
theorem w_87 : (Jvm.Cond.fieldLinkNest "RaceWatch" (149 : Nat) "RaceWatch$Lock" "owner" "I" "RaceWatch") ∈ WS := ws_in (List.mem_append_right _ (List.mem_append_left _ (List.mem_of_getElem? (i := 99) rfl))) (by decide +kernel)
theorem w_88 : (Jvm.Cond.fieldLink "RaceWatch$Lock" (22 : Nat) "RaceWatch$Lock" "depth" "I") ∈ WS := ws_in (List.mem_append_right _ (List.mem_append_left _ (List.mem_of_getElem? (i := 100) rfl))) (by decide +kernel)
theorem w_89 : (Jvm.Cond.fieldLinkNest "RaceWatch" (146 : Nat) "RaceWatch$Lock" "depth" "I" "RaceWatch") ∈ WS := ws_in (List.mem_append_right _ (List.mem_append_left _ (List.mem_of_getElem? (i := 101) rfl))) (by decide +kernel)
theorem w_90 : (Jvm.Cond.laysFinal "RaceWatch$Lock" "RaceWatch$Lock" "clock" "LRaceWatch$Clock;") ∈ WS := ws_in (List.mem_append_right _ (List.mem_append_left _ (List.mem_of_getElem? (i := 102) rfl))) (by decide +kernel)
theorem w_91 : (Jvm.Cond.lays "RaceWatch$Lock" "RaceWatch$Lock" "owner" "I") ∈ WS := ws_in (List.mem_append_right _ (List.mem_append_left _ (List.mem_of_getElem? (i := 104) rfl))) (by decide +kernel)
theorem w_92 : (Jvm.Cond.lays "RaceWatch$Lock" "RaceWatch$Lock" "depth" "I") ∈ WS := ws_in (List.mem_append_right _ (List.mem_append_left _ (List.mem_of_getElem? (i := 106) rfl))) (by decide +kernel)
theorem w_93 : (Jvm.Cond.classLink "RaceWatch" (30 : Nat) "RaceWatch$Clock") ∈ WS := ws_in (List.mem_append_right _ (List.mem_append_left _ (List.mem_of_getElem? (i := 109) rfl))) (by decide +kernel)
theorem w_94 : (Jvm.Cond.arrayOver (FieldType.object "RaceWatch$Clock")) ∈ WS := ws_in (List.mem_append_right _ (List.mem_append_left _ (List.mem_of_getElem? (i := 110) rfl))) (by decide +kernel)
theorem w_95 : (Jvm.Cond.methodLinkNest "RaceWatch" (36 : Nat) ({ cls := "RaceWatch$Clock", name := "<init>", desc := "()V" } : Jvm.MethodName) "RaceWatch") ∈ WS := ws_in (List.mem_append_right _ (List.mem_append_left _ (List.mem_of_getElem? (i := 111) rfl))) (by decide +kernel)
theorem w_96 : (Jvm.Cond.classLink "RaceWatch" (37 : Nat) "RaceWatch$Trace") ∈ WS := ws_in (List.mem_append_right _ (List.mem_append_left _ (List.mem_of_getElem? (i := 112) rfl))) (by decide +kernel)
theorem w_97 : (Jvm.Cond.instantiable "RaceWatch$Trace" (3 : Nat)) ∈ WS := ws_in (List.mem_append_right _ (List.mem_append_left _ (List.mem_of_getElem? (i := 113) rfl))) (by decide +kernel)
theorem w_98 : (Jvm.Cond.methodLinkNest "RaceWatch" (39 : Nat) ({ cls := "RaceWatch$Trace", name := "<init>", desc := "()V" } : Jvm.MethodName) "RaceWatch") ∈ WS := ws_in (List.mem_append_right _ (List.mem_append_left _ (List.mem_of_getElem? (i := 114) rfl))) (by decide +kernel)
theorem w_99 : (Jvm.Cond.instanceMethod ({ cls := "RaceWatch$Trace", name := "<init>", desc := "()V" } : Jvm.MethodName)) ∈ WS := ws_in (List.mem_append_right _ (List.mem_append_left _ (List.mem_of_getElem? (i := 115) rfl))) (by decide +kernel)
theorem w_100 : (Jvm.Cond.code ({ cls := "RaceWatch$Trace", name := "<init>", desc := "()V" } : Jvm.MethodName) prog_6_method_1_code (1 : Nat) (Option.none : Option FieldType)) ∈ WS := ws_in (List.mem_append_right _ (List.mem_append_left _ (List.mem_of_getElem? (i := 116) rfl))) (by decide +kernel)
theorem w_101 : (Jvm.Cond.methodLink "RaceWatch$Trace" (3 : Nat) ({ cls := "java/lang/Object", name := "<init>", desc := "()V" } : Jvm.MethodName)) ∈ WS := ws_in (List.mem_append_right _ (List.mem_append_left _ (List.mem_of_getElem? (i := 117) rfl))) (by decide +kernel)
theorem w_102 : (Jvm.Cond.fieldLink "RaceWatch$Trace" (9 : Nat) "RaceWatch$Trace" "codes" "[I") ∈ WS := ws_in (List.mem_append_right _ (List.mem_append_left _ (List.mem_of_getElem? (i := 118) rfl))) (by decide +kernel)
theorem w_103 : (Jvm.Cond.fieldLinkNest "RaceWatch" (158 : Nat) "RaceWatch$Trace" "codes" "[I" "RaceWatch") ∈ WS := ws_in (List.mem_append_right _ (List.mem_append_left _ (List.mem_of_getElem? (i := 119) rfl))) (by decide +kernel)
theorem w_104 : (Jvm.Cond.fieldLink "RaceWatch$Trace" (15 : Nat) "RaceWatch$Trace" "clocks" "[I") ∈ WS := ws_in (List.mem_append_right _ (List.mem_append_left _ (List.mem_of_getElem? (i := 120) rfl))) (by decide +kernel)
theorem w_105 : (Jvm.Cond.fieldLink "RaceWatch$Trace" (18 : Nat) "RaceWatch$Trace" "count" "I") ∈ WS := ws_in (List.mem_append_right _ (List.mem_append_left _ (List.mem_of_getElem? (i := 121) rfl))) (by decide +kernel)
theorem w_106 : (Jvm.Cond.fieldLinkNest "RaceWatch" (152 : Nat) "RaceWatch$Trace" "count" "I" "RaceWatch") ∈ WS := ws_in (List.mem_append_right _ (List.mem_append_left _ (List.mem_of_getElem? (i := 122) rfl))) (by decide +kernel)
theorem w_107 : (Jvm.Cond.laysFinal "RaceWatch$Trace" "RaceWatch$Trace" "codes" "[I") ∈ WS := ws_in (List.mem_append_right _ (List.mem_append_left _ (List.mem_of_getElem? (i := 123) rfl))) (by decide +kernel)
theorem w_108 : (Jvm.Cond.laysFinal "RaceWatch$Trace" "RaceWatch$Trace" "clocks" "[I") ∈ WS := ws_in (List.mem_append_right _ (List.mem_append_left _ (List.mem_of_getElem? (i := 125) rfl))) (by decide +kernel)
theorem w_109 : (Jvm.Cond.lays "RaceWatch$Trace" "RaceWatch$Trace" "count" "I") ∈ WS := ws_in (List.mem_append_right _ (List.mem_append_left _ (List.mem_of_getElem? (i := 127) rfl))) (by decide +kernel)
theorem w_110 : (Jvm.Cond.classLink "RaceWatch" (44 : Nat) "RaceWatch$RaceBook") ∈ WS := ws_in (List.mem_append_right _ (List.mem_append_left _ (List.mem_of_getElem? (i := 130) rfl))) (by decide +kernel)
theorem w_111 : (Jvm.Cond.instantiable "RaceWatch$RaceBook" (4 : Nat)) ∈ WS := ws_in (List.mem_append_right _ (List.mem_append_left _ (List.mem_of_getElem? (i := 131) rfl))) (by decide +kernel)
theorem w_112 : (Jvm.Cond.methodLinkNest "RaceWatch" (46 : Nat) ({ cls := "RaceWatch$RaceBook", name := "<init>", desc := "()V" } : Jvm.MethodName) "RaceWatch") ∈ WS := ws_in (List.mem_append_right _ (List.mem_append_left _ (List.mem_of_getElem? (i := 132) rfl))) (by decide +kernel)
theorem w_113 : (Jvm.Cond.instanceMethod ({ cls := "RaceWatch$RaceBook", name := "<init>", desc := "()V" } : Jvm.MethodName)) ∈ WS := ws_in (List.mem_append_right _ (List.mem_append_left _ (List.mem_of_getElem? (i := 133) rfl))) (by decide +kernel)
theorem w_114 : (Jvm.Cond.code ({ cls := "RaceWatch$RaceBook", name := "<init>", desc := "()V" } : Jvm.MethodName) prog_5_method_1_code (1 : Nat) (Option.none : Option FieldType)) ∈ WS := ws_in (List.mem_append_right _ (List.mem_append_left _ (List.mem_of_getElem? (i := 134) rfl))) (by decide +kernel)
theorem w_115 : (Jvm.Cond.methodLink "RaceWatch$RaceBook" (3 : Nat) ({ cls := "java/lang/Object", name := "<init>", desc := "()V" } : Jvm.MethodName)) ∈ WS := ws_in (List.mem_append_right _ (List.mem_append_left _ (List.mem_of_getElem? (i := 135) rfl))) (by decide +kernel)
theorem w_116 : (Jvm.Cond.methodLink "RaceWatch$RaceBook" (24 : Nat) ({ cls := "RaceWatch$RaceBook", name := "forget", desc := "()V" } : Jvm.MethodName)) ∈ WS := ws_in (List.mem_append_right _ (List.mem_append_left _ (List.mem_of_getElem? (i := 136) rfl))) (by decide +kernel)
theorem w_117 : (Jvm.Cond.privateMethod ({ cls := "RaceWatch$RaceBook", name := "forget", desc := "()V" } : Jvm.MethodName)) ∈ WS := ws_in (List.mem_append_right _ (List.mem_append_left _ (List.mem_of_getElem? (i := 137) rfl))) (by decide +kernel)
theorem w_118 : (Jvm.Cond.instanceMethod ({ cls := "RaceWatch$RaceBook", name := "forget", desc := "()V" } : Jvm.MethodName)) ∈ WS := ws_in (List.mem_append_right _ (List.mem_append_left _ (List.mem_of_getElem? (i := 138) rfl))) (by decide +kernel)
theorem w_119 : (Jvm.Cond.code ({ cls := "RaceWatch$RaceBook", name := "forget", desc := "()V" } : Jvm.MethodName) prog_5_method_2_code (1 : Nat) (Option.none : Option FieldType)) ∈ WS := ws_in (List.mem_append_right _ (List.mem_append_left _ (List.mem_of_getElem? (i := 139) rfl))) (by decide +kernel)
theorem w_120 : (Jvm.Cond.methodLink "RaceWatch$RaceBook" (27 : Nat) ({ cls := "java/util/Arrays", name := "fill", desc := "([II)V" } : Jvm.MethodName)) ∈ WS := ws_in (List.mem_append_right _ (List.mem_append_left _ (List.mem_of_getElem? (i := 140) rfl))) (by decide +kernel)
theorem w_121 : (Jvm.Cond.static ({ cls := "java/util/Arrays", name := "fill", desc := "([II)V" } : Jvm.MethodName)) ∈ WS := ws_in (List.mem_append_right _ (List.mem_append_left _ (List.mem_of_getElem? (i := 141) rfl))) (by decide +kernel)
theorem w_122 : (Jvm.Cond.code ({ cls := "java/util/Arrays", name := "fill", desc := "([II)V" } : Jvm.MethodName) prog_20_method_103_code (4 : Nat) (Option.none : Option FieldType)) ∈ WS := ws_in (List.mem_append_right _ (List.mem_append_left _ (List.mem_of_getElem? (i := 142) rfl))) (by decide +kernel)
theorem w_123 : (Jvm.Cond.fieldLink "RaceWatch$RaceBook" (9 : Nat) "RaceWatch$RaceBook" "raceAt" "[I") ∈ WS := ws_in (List.mem_append_right _ (List.mem_append_left _ (List.mem_of_getElem? (i := 143) rfl))) (by decide +kernel)
theorem w_124 : (Jvm.Cond.fieldLinkNest "RaceWatch" (171 : Nat) "RaceWatch$RaceBook" "raceAt" "[I" "RaceWatch") ∈ WS := ws_in (List.mem_append_right _ (List.mem_append_left _ (List.mem_of_getElem? (i := 144) rfl))) (by decide +kernel)
theorem w_125 : (Jvm.Cond.fieldLink "RaceWatch$RaceBook" (15 : Nat) "RaceWatch$RaceBook" "partnerOf" "[I") ∈ WS := ws_in (List.mem_append_right _ (List.mem_append_left _ (List.mem_of_getElem? (i := 145) rfl))) (by decide +kernel)
theorem w_126 : (Jvm.Cond.fieldLinkNest "RaceWatch" (174 : Nat) "RaceWatch$RaceBook" "partnerOf" "[I" "RaceWatch") ∈ WS := ws_in (List.mem_append_right _ (List.mem_append_left _ (List.mem_of_getElem? (i := 146) rfl))) (by decide +kernel)
theorem w_127 : (Jvm.Cond.fieldLink "RaceWatch$RaceBook" (18 : Nat) "RaceWatch$RaceBook" "lastWrite" "[I") ∈ WS := ws_in (List.mem_append_right _ (List.mem_append_left _ (List.mem_of_getElem? (i := 147) rfl))) (by decide +kernel)
theorem w_128 : (Jvm.Cond.fieldLink "RaceWatch$RaceBook" (21 : Nat) "RaceWatch$RaceBook" "lastRead" "[I") ∈ WS := ws_in (List.mem_append_right _ (List.mem_append_left _ (List.mem_of_getElem? (i := 148) rfl))) (by decide +kernel)
theorem w_129 : (Jvm.Cond.laysFinal "RaceWatch$RaceBook" "RaceWatch$RaceBook" "raceAt" "[I") ∈ WS := ws_in (List.mem_append_right _ (List.mem_append_left _ (List.mem_of_getElem? (i := 149) rfl))) (by decide +kernel)
theorem w_130 : (Jvm.Cond.laysFinal "RaceWatch$RaceBook" "RaceWatch$RaceBook" "partnerOf" "[I") ∈ WS := ws_in (List.mem_append_right _ (List.mem_append_left _ (List.mem_of_getElem? (i := 151) rfl))) (by decide +kernel)
theorem w_131 : (Jvm.Cond.laysFinal "RaceWatch$RaceBook" "RaceWatch$RaceBook" "lastWrite" "[I") ∈ WS := ws_in (List.mem_append_right _ (List.mem_append_left _ (List.mem_of_getElem? (i := 153) rfl))) (by decide +kernel)
theorem w_132 : (Jvm.Cond.laysFinal "RaceWatch$RaceBook" "RaceWatch$RaceBook" "lastRead" "[I") ∈ WS := ws_in (List.mem_append_right _ (List.mem_append_left _ (List.mem_of_getElem? (i := 155) rfl))) (by decide +kernel)
theorem w_133 : (Jvm.Cond.fieldLink "RaceWatch" (11 : Nat) "RaceWatch" "programs" "[LRaceWatch$Program;") ∈ WS := ws_in (List.mem_append_right _ (List.mem_append_left _ (List.mem_of_getElem? (i := 158) rfl))) (by decide +kernel)
theorem w_134 : (Jvm.Cond.fieldLink "RaceWatch" (17 : Nat) "RaceWatch" "workers" "[LRaceWatch$Worker;") ∈ WS := ws_in (List.mem_append_right _ (List.mem_append_left _ (List.mem_of_getElem? (i := 159) rfl))) (by decide +kernel)
theorem w_135 : (Jvm.Cond.fieldLink "RaceWatch" (25 : Nat) "RaceWatch" "locks" "[LRaceWatch$Lock;") ∈ WS := ws_in (List.mem_append_right _ (List.mem_append_left _ (List.mem_of_getElem? (i := 160) rfl))) (by decide +kernel)
theorem w_136 : (Jvm.Cond.fieldLink "RaceWatch" (32 : Nat) "RaceWatch" "volatiles" "[LRaceWatch$Clock;") ∈ WS := ws_in (List.mem_append_right _ (List.mem_append_left _ (List.mem_of_getElem? (i := 161) rfl))) (by decide +kernel)
theorem w_137 : (Jvm.Cond.fieldLink "RaceWatch" (40 : Nat) "RaceWatch" "trace" "LRaceWatch$Trace;") ∈ WS := ws_in (List.mem_append_right _ (List.mem_append_left _ (List.mem_of_getElem? (i := 162) rfl))) (by decide +kernel)
theorem w_138 : (Jvm.Cond.fieldLink "RaceWatch" (47 : Nat) "RaceWatch" "fineBook" "LRaceWatch$RaceBook;") ∈ WS := ws_in (List.mem_append_right _ (List.mem_append_left _ (List.mem_of_getElem? (i := 163) rfl))) (by decide +kernel)
theorem w_139 : (Jvm.Cond.fieldLink "RaceWatch" (51 : Nat) "RaceWatch" "coarseBook" "LRaceWatch$RaceBook;") ∈ WS := ws_in (List.mem_append_right _ (List.mem_append_left _ (List.mem_of_getElem? (i := 164) rfl))) (by decide +kernel)
theorem w_140 : (Jvm.Cond.fieldLink "RaceWatch" (54 : Nat) "RaceWatch" "started" "Z") ∈ WS := ws_in (List.mem_append_right _ (List.mem_append_left _ (List.mem_of_getElem? (i := 165) rfl))) (by decide +kernel)
theorem w_141 : (Jvm.Cond.fieldLink "RaceWatch" (58 : Nat) "RaceWatch" "startedCoarse" "Z") ∈ WS := ws_in (List.mem_append_right _ (List.mem_append_left _ (List.mem_of_getElem? (i := 166) rfl))) (by decide +kernel)
theorem w_142 : (Jvm.Cond.laysFinal "RaceWatch" "RaceWatch" "programs" "[LRaceWatch$Program;") ∈ WS := ws_in (List.mem_append_right _ (List.mem_append_left _ (List.mem_of_getElem? (i := 167) rfl))) (by decide +kernel)
theorem w_143 : (Jvm.Cond.laysFinal "RaceWatch" "RaceWatch" "workers" "[LRaceWatch$Worker;") ∈ WS := ws_in (List.mem_append_right _ (List.mem_append_left _ (List.mem_of_getElem? (i := 169) rfl))) (by decide +kernel)
theorem w_144 : (Jvm.Cond.laysFinal "RaceWatch" "RaceWatch" "locks" "[LRaceWatch$Lock;") ∈ WS := ws_in (List.mem_append_right _ (List.mem_append_left _ (List.mem_of_getElem? (i := 171) rfl))) (by decide +kernel)
theorem w_145 : (Jvm.Cond.laysFinal "RaceWatch" "RaceWatch" "volatiles" "[LRaceWatch$Clock;") ∈ WS := ws_in (List.mem_append_right _ (List.mem_append_left _ (List.mem_of_getElem? (i := 173) rfl))) (by decide +kernel)
theorem w_146 : (Jvm.Cond.laysFinal "RaceWatch" "RaceWatch" "trace" "LRaceWatch$Trace;") ∈ WS := ws_in (List.mem_append_right _ (List.mem_append_left _ (List.mem_of_getElem? (i := 175) rfl))) (by decide +kernel)
theorem w_147 : (Jvm.Cond.laysFinal "RaceWatch" "RaceWatch" "fineBook" "LRaceWatch$RaceBook;") ∈ WS := ws_in (List.mem_append_right _ (List.mem_append_left _ (List.mem_of_getElem? (i := 177) rfl))) (by decide +kernel)
theorem w_148 : (Jvm.Cond.laysFinal "RaceWatch" "RaceWatch" "coarseBook" "LRaceWatch$RaceBook;") ∈ WS := ws_in (List.mem_append_right _ (List.mem_append_left _ (List.mem_of_getElem? (i := 179) rfl))) (by decide +kernel)
theorem w_149 : (Jvm.Cond.lays "RaceWatch" "RaceWatch" "started" "Z") ∈ WS := ws_in (List.mem_append_right _ (List.mem_append_left _ (List.mem_of_getElem? (i := 181) rfl))) (by decide +kernel)
theorem w_150 : (Jvm.Cond.lays "RaceWatch" "RaceWatch" "startedCoarse" "Z") ∈ WS := ws_in (List.mem_append_right _ (List.mem_append_left _ (List.mem_of_getElem? (i := 183) rfl))) (by decide +kernel)
theorem w_151 : (Jvm.Cond.methodLink "RaceWatchLaw" (29 : Nat) ({ cls := "RaceWatch", name := "add", desc := "(IIII)I" } : Jvm.MethodName)) ∈ WS := ws_in (List.mem_append_right _ (List.mem_append_left _ (List.mem_of_getElem? (i := 186) rfl))) (by decide +kernel)
theorem w_152 : (Jvm.Cond.instanceMethod ({ cls := "RaceWatch", name := "add", desc := "(IIII)I" } : Jvm.MethodName)) ∈ WS := ws_in (List.mem_append_right _ (List.mem_append_left _ (List.mem_of_getElem? (i := 187) rfl))) (by decide +kernel)
theorem w_153 : (Jvm.Cond.selects "RaceWatch" ({ cls := "RaceWatch", name := "add", desc := "(IIII)I" } : Jvm.MethodName) ({ cls := "RaceWatch", name := "add", desc := "(IIII)I" } : Jvm.MethodName)) ∈ WS := ws_in (List.mem_append_right _ (List.mem_append_left _ (List.mem_of_getElem? (i := 188) rfl))) (by decide +kernel)
theorem w_154 : (Jvm.Cond.code ({ cls := "RaceWatch", name := "add", desc := "(IIII)I" } : Jvm.MethodName) prog_1_method_2_code (5 : Nat) (Option.some FieldType.int)) ∈ WS := ws_in (List.mem_append_right _ (List.mem_append_left _ (List.mem_of_getElem? (i := 189) rfl))) (by decide +kernel)
theorem w_155 : (Jvm.Cond.methodLink "RaceWatch" (61 : Nat) ({ cls := "RaceWatch", name := "isThread", desc := "(I)Z" } : Jvm.MethodName)) ∈ WS := ws_in (List.mem_append_right _ (List.mem_append_left _ (List.mem_of_getElem? (i := 190) rfl))) (by decide +kernel)
theorem w_156 : (Jvm.Cond.static ({ cls := "RaceWatch", name := "isThread", desc := "(I)Z" } : Jvm.MethodName)) ∈ WS := ws_in (List.mem_append_right _ (List.mem_append_left _ (List.mem_of_getElem? (i := 191) rfl))) (by decide +kernel)
theorem w_157 : (Jvm.Cond.code ({ cls := "RaceWatch", name := "isThread", desc := "(I)Z" } : Jvm.MethodName) prog_1_method_17_code (1 : Nat) (Option.some FieldType.boolean)) ∈ WS := ws_in (List.mem_append_right _ (List.mem_append_left _ (List.mem_of_getElem? (i := 192) rfl))) (by decide +kernel)
theorem w_158 : (Jvm.Cond.methodLinkNest "RaceWatch" (65 : Nat) ({ cls := "RaceWatch$Program", name := "isFull", desc := "()Z" } : Jvm.MethodName) "RaceWatch") ∈ WS := ws_in (List.mem_append_right _ (List.mem_append_left _ (List.mem_of_getElem? (i := 193) rfl))) (by decide +kernel)
theorem w_159 : (Jvm.Cond.privateMethod ({ cls := "RaceWatch$Program", name := "isFull", desc := "()Z" } : Jvm.MethodName)) ∈ WS := ws_in (List.mem_append_right _ (List.mem_append_left _ (List.mem_of_getElem? (i := 194) rfl))) (by decide +kernel)
theorem w_160 : (Jvm.Cond.instanceMethod ({ cls := "RaceWatch$Program", name := "isFull", desc := "()Z" } : Jvm.MethodName)) ∈ WS := ws_in (List.mem_append_right _ (List.mem_append_left _ (List.mem_of_getElem? (i := 195) rfl))) (by decide +kernel)
theorem w_161 : (Jvm.Cond.code ({ cls := "RaceWatch$Program", name := "isFull", desc := "()Z" } : Jvm.MethodName) prog_4_method_2_code (1 : Nat) (Option.some FieldType.boolean)) ∈ WS := ws_in (List.mem_append_right _ (List.mem_append_left _ (List.mem_of_getElem? (i := 196) rfl))) (by decide +kernel)
theorem w_162 : (Jvm.Cond.methodLink "RaceWatch" (69 : Nat) ({ cls := "RaceWatch", name := "isNamed", desc := "(II)Z" } : Jvm.MethodName)) ∈ WS := ws_in (List.mem_append_right _ (List.mem_append_left _ (List.mem_of_getElem? (i := 197) rfl))) (by decide +kernel)
theorem w_163 : (Jvm.Cond.static ({ cls := "RaceWatch", name := "isNamed", desc := "(II)Z" } : Jvm.MethodName)) ∈ WS := ws_in (List.mem_append_right _ (List.mem_append_left _ (List.mem_of_getElem? (i := 198) rfl))) (by decide +kernel)
theorem w_164 : (Jvm.Cond.code ({ cls := "RaceWatch", name := "isNamed", desc := "(II)Z" } : Jvm.MethodName) prog_1_method_23_code (2 : Nat) (Option.some FieldType.boolean)) ∈ WS := ws_in (List.mem_append_right _ (List.mem_append_left _ (List.mem_of_getElem? (i := 199) rfl))) (by decide +kernel)
theorem w_165 : (Jvm.Cond.methodLink "RaceWatch" (164 : Nat) ({ cls := "RaceWatch", name := "isVariable", desc := "(I)Z" } : Jvm.MethodName)) ∈ WS := ws_in (List.mem_append_right _ (List.mem_append_left _ (List.mem_of_getElem? (i := 200) rfl))) (by decide +kernel)
theorem w_166 : (Jvm.Cond.static ({ cls := "RaceWatch", name := "isVariable", desc := "(I)Z" } : Jvm.MethodName)) ∈ WS := ws_in (List.mem_append_right _ (List.mem_append_left _ (List.mem_of_getElem? (i := 201) rfl))) (by decide +kernel)
theorem w_167 : (Jvm.Cond.code ({ cls := "RaceWatch", name := "isVariable", desc := "(I)Z" } : Jvm.MethodName) prog_1_method_18_code (1 : Nat) (Option.some FieldType.boolean)) ∈ WS := ws_in (List.mem_append_right _ (List.mem_append_left _ (List.mem_of_getElem? (i := 202) rfl))) (by decide +kernel)
theorem w_168 : (Jvm.Cond.methodLinkNest "RaceWatch" (73 : Nat) ({ cls := "RaceWatch$Program", name := "append", desc := "(III)I" } : Jvm.MethodName) "RaceWatch") ∈ WS := ws_in (List.mem_append_right _ (List.mem_append_left _ (List.mem_of_getElem? (i := 203) rfl))) (by decide +kernel)
theorem w_169 : (Jvm.Cond.privateMethod ({ cls := "RaceWatch$Program", name := "append", desc := "(III)I" } : Jvm.MethodName)) ∈ WS := ws_in (List.mem_append_right _ (List.mem_append_left _ (List.mem_of_getElem? (i := 204) rfl))) (by decide +kernel)
theorem w_170 : (Jvm.Cond.instanceMethod ({ cls := "RaceWatch$Program", name := "append", desc := "(III)I" } : Jvm.MethodName)) ∈ WS := ws_in (List.mem_append_right _ (List.mem_append_left _ (List.mem_of_getElem? (i := 205) rfl))) (by decide +kernel)
theorem w_171 : (Jvm.Cond.code ({ cls := "RaceWatch$Program", name := "append", desc := "(III)I" } : Jvm.MethodName) prog_4_method_3_code (5 : Nat) (Option.some FieldType.int)) ∈ WS := ws_in (List.mem_append_right _ (List.mem_append_left _ (List.mem_of_getElem? (i := 206) rfl))) (by decide +kernel)
theorem w_172 : (Jvm.Cond.methodLink "RaceWatchLaw" (34 : Nat) ({ cls := "RaceWatch", name := "clear", desc := "()V" } : Jvm.MethodName)) ∈ WS := ws_in (List.mem_append_right _ (List.mem_append_left _ (List.mem_of_getElem? (i := 207) rfl))) (by decide +kernel)
theorem w_173 : (Jvm.Cond.instanceMethod ({ cls := "RaceWatch", name := "clear", desc := "()V" } : Jvm.MethodName)) ∈ WS := ws_in (List.mem_append_right _ (List.mem_append_left _ (List.mem_of_getElem? (i := 208) rfl))) (by decide +kernel)
theorem w_174 : (Jvm.Cond.selects "RaceWatch" ({ cls := "RaceWatch", name := "clear", desc := "()V" } : Jvm.MethodName) ({ cls := "RaceWatch", name := "clear", desc := "()V" } : Jvm.MethodName)) ∈ WS := ws_in (List.mem_append_right _ (List.mem_append_left _ (List.mem_of_getElem? (i := 209) rfl))) (by decide +kernel)
theorem w_175 : (Jvm.Cond.code ({ cls := "RaceWatch", name := "clear", desc := "()V" } : Jvm.MethodName) prog_1_method_3_code (2 : Nat) (Option.none : Option FieldType)) ∈ WS := ws_in (List.mem_append_right _ (List.mem_append_left _ (List.mem_of_getElem? (i := 210) rfl))) (by decide +kernel)
theorem w_176 : (Jvm.Cond.methodLinkNest "RaceWatch" (77 : Nat) ({ cls := "RaceWatch$Program", name := "forget", desc := "()V" } : Jvm.MethodName) "RaceWatch") ∈ WS := ws_in (List.mem_append_right _ (List.mem_append_left _ (List.mem_of_getElem? (i := 211) rfl))) (by decide +kernel)
theorem w_177 : (Jvm.Cond.privateMethod ({ cls := "RaceWatch$Program", name := "forget", desc := "()V" } : Jvm.MethodName)) ∈ WS := ws_in (List.mem_append_right _ (List.mem_append_left _ (List.mem_of_getElem? (i := 212) rfl))) (by decide +kernel)
theorem w_178 : (Jvm.Cond.instanceMethod ({ cls := "RaceWatch$Program", name := "forget", desc := "()V" } : Jvm.MethodName)) ∈ WS := ws_in (List.mem_append_right _ (List.mem_append_left _ (List.mem_of_getElem? (i := 213) rfl))) (by decide +kernel)
theorem w_179 : (Jvm.Cond.code ({ cls := "RaceWatch$Program", name := "forget", desc := "()V" } : Jvm.MethodName) prog_4_method_4_code (1 : Nat) (Option.none : Option FieldType)) ∈ WS := ws_in (List.mem_append_right _ (List.mem_append_left _ (List.mem_of_getElem? (i := 214) rfl))) (by decide +kernel)
theorem w_180 : (Jvm.Cond.methodLinkNest "RaceWatch" (80 : Nat) ({ cls := "RaceWatch$Worker", name := "forget", desc := "()V" } : Jvm.MethodName) "RaceWatch") ∈ WS := ws_in (List.mem_append_right _ (List.mem_append_left _ (List.mem_of_getElem? (i := 215) rfl))) (by decide +kernel)
theorem w_181 : (Jvm.Cond.privateMethod ({ cls := "RaceWatch$Worker", name := "forget", desc := "()V" } : Jvm.MethodName)) ∈ WS := ws_in (List.mem_append_right _ (List.mem_append_left _ (List.mem_of_getElem? (i := 216) rfl))) (by decide +kernel)
theorem w_182 : (Jvm.Cond.instanceMethod ({ cls := "RaceWatch$Worker", name := "forget", desc := "()V" } : Jvm.MethodName)) ∈ WS := ws_in (List.mem_append_right _ (List.mem_append_left _ (List.mem_of_getElem? (i := 217) rfl))) (by decide +kernel)
theorem w_183 : (Jvm.Cond.code ({ cls := "RaceWatch$Worker", name := "forget", desc := "()V" } : Jvm.MethodName) prog_7_method_4_code (1 : Nat) (Option.none : Option FieldType)) ∈ WS := ws_in (List.mem_append_right _ (List.mem_append_left _ (List.mem_of_getElem? (i := 218) rfl))) (by decide +kernel)
theorem w_184 : (Jvm.Cond.methodLinkNest "RaceWatch$Worker" (37 : Nat) ({ cls := "RaceWatch$Clock", name := "forget", desc := "()V" } : Jvm.MethodName) "RaceWatch") ∈ WS := ws_in (List.mem_append_right _ (List.mem_append_left _ (List.mem_of_getElem? (i := 219) rfl))) (by decide +kernel)
theorem w_185 : (Jvm.Cond.privateMethod ({ cls := "RaceWatch$Clock", name := "forget", desc := "()V" } : Jvm.MethodName)) ∈ WS := ws_in (List.mem_append_right _ (List.mem_append_left _ (List.mem_of_getElem? (i := 220) rfl))) (by decide +kernel)
theorem w_186 : (Jvm.Cond.instanceMethod ({ cls := "RaceWatch$Clock", name := "forget", desc := "()V" } : Jvm.MethodName)) ∈ WS := ws_in (List.mem_append_right _ (List.mem_append_left _ (List.mem_of_getElem? (i := 221) rfl))) (by decide +kernel)
theorem w_187 : (Jvm.Cond.code ({ cls := "RaceWatch$Clock", name := "forget", desc := "()V" } : Jvm.MethodName) prog_2_method_4_code (1 : Nat) (Option.none : Option FieldType)) ∈ WS := ws_in (List.mem_append_right _ (List.mem_append_left _ (List.mem_of_getElem? (i := 222) rfl))) (by decide +kernel)
theorem w_188 : (Jvm.Cond.methodLink "RaceWatch$Clock" (21 : Nat) ({ cls := "java/util/Arrays", name := "fill", desc := "([II)V" } : Jvm.MethodName)) ∈ WS := ws_in (List.mem_append_right _ (List.mem_append_left _ (List.mem_of_getElem? (i := 223) rfl))) (by decide +kernel)
theorem w_189 : (Jvm.Cond.methodLinkNest "RaceWatch" (81 : Nat) ({ cls := "RaceWatch$Lock", name := "forget", desc := "()V" } : Jvm.MethodName) "RaceWatch") ∈ WS := ws_in (List.mem_append_right _ (List.mem_append_left _ (List.mem_of_getElem? (i := 224) rfl))) (by decide +kernel)
theorem w_190 : (Jvm.Cond.privateMethod ({ cls := "RaceWatch$Lock", name := "forget", desc := "()V" } : Jvm.MethodName)) ∈ WS := ws_in (List.mem_append_right _ (List.mem_append_left _ (List.mem_of_getElem? (i := 225) rfl))) (by decide +kernel)
theorem w_191 : (Jvm.Cond.instanceMethod ({ cls := "RaceWatch$Lock", name := "forget", desc := "()V" } : Jvm.MethodName)) ∈ WS := ws_in (List.mem_append_right _ (List.mem_append_left _ (List.mem_of_getElem? (i := 226) rfl))) (by decide +kernel)
theorem w_192 : (Jvm.Cond.code ({ cls := "RaceWatch$Lock", name := "forget", desc := "()V" } : Jvm.MethodName) prog_3_method_5_code (1 : Nat) (Option.none : Option FieldType)) ∈ WS := ws_in (List.mem_append_right _ (List.mem_append_left _ (List.mem_of_getElem? (i := 227) rfl))) (by decide +kernel)
theorem w_193 : (Jvm.Cond.methodLinkNest "RaceWatch$Lock" (29 : Nat) ({ cls := "RaceWatch$Clock", name := "forget", desc := "()V" } : Jvm.MethodName) "RaceWatch") ∈ WS := ws_in (List.mem_append_right _ (List.mem_append_left _ (List.mem_of_getElem? (i := 228) rfl))) (by decide +kernel)
theorem w_194 : (Jvm.Cond.methodLinkNest "RaceWatch" (82 : Nat) ({ cls := "RaceWatch$Clock", name := "forget", desc := "()V" } : Jvm.MethodName) "RaceWatch") ∈ WS := ws_in (List.mem_append_right _ (List.mem_append_left _ (List.mem_of_getElem? (i := 229) rfl))) (by decide +kernel)
theorem w_195 : (Jvm.Cond.methodLinkNest "RaceWatch" (83 : Nat) ({ cls := "RaceWatch$Trace", name := "forget", desc := "()V" } : Jvm.MethodName) "RaceWatch") ∈ WS := ws_in (List.mem_append_right _ (List.mem_append_left _ (List.mem_of_getElem? (i := 230) rfl))) (by decide +kernel)
theorem w_196 : (Jvm.Cond.privateMethod ({ cls := "RaceWatch$Trace", name := "forget", desc := "()V" } : Jvm.MethodName)) ∈ WS := ws_in (List.mem_append_right _ (List.mem_append_left _ (List.mem_of_getElem? (i := 231) rfl))) (by decide +kernel)
theorem w_197 : (Jvm.Cond.instanceMethod ({ cls := "RaceWatch$Trace", name := "forget", desc := "()V" } : Jvm.MethodName)) ∈ WS := ws_in (List.mem_append_right _ (List.mem_append_left _ (List.mem_of_getElem? (i := 232) rfl))) (by decide +kernel)
theorem w_198 : (Jvm.Cond.code ({ cls := "RaceWatch$Trace", name := "forget", desc := "()V" } : Jvm.MethodName) prog_6_method_7_code (1 : Nat) (Option.none : Option FieldType)) ∈ WS := ws_in (List.mem_append_right _ (List.mem_append_left _ (List.mem_of_getElem? (i := 233) rfl))) (by decide +kernel)
theorem w_199 : (Jvm.Cond.methodLinkNest "RaceWatch" (84 : Nat) ({ cls := "RaceWatch$RaceBook", name := "forget", desc := "()V" } : Jvm.MethodName) "RaceWatch") ∈ WS := ws_in (List.mem_append_right _ (List.mem_append_left _ (List.mem_of_getElem? (i := 234) rfl))) (by decide +kernel)
theorem w_200 : (Jvm.Cond.methodLink "RaceWatchLaw" (52 : Nat) ({ cls := "RaceWatch", name := "state", desc := "(I)J" } : Jvm.MethodName)) ∈ WS := ws_in (List.mem_append_right _ (List.mem_append_left _ (List.mem_of_getElem? (i := 235) rfl))) (by decide +kernel)
theorem w_201 : (Jvm.Cond.instanceMethod ({ cls := "RaceWatch", name := "state", desc := "(I)J" } : Jvm.MethodName)) ∈ WS := ws_in (List.mem_append_right _ (List.mem_append_left _ (List.mem_of_getElem? (i := 236) rfl))) (by decide +kernel)
theorem w_202 : (Jvm.Cond.selects "RaceWatch" ({ cls := "RaceWatch", name := "state", desc := "(I)J" } : Jvm.MethodName) ({ cls := "RaceWatch", name := "state", desc := "(I)J" } : Jvm.MethodName)) ∈ WS := ws_in (List.mem_append_right _ (List.mem_append_left _ (List.mem_of_getElem? (i := 237) rfl))) (by decide +kernel)
theorem w_203 : (Jvm.Cond.code ({ cls := "RaceWatch", name := "state", desc := "(I)J" } : Jvm.MethodName) prog_1_method_6_code (3 : Nat) (Option.some FieldType.long)) ∈ WS := ws_in (List.mem_append_right _ (List.mem_append_left _ (List.mem_of_getElem? (i := 238) rfl))) (by decide +kernel)
theorem w_204 : (Jvm.Cond.constantLong "RaceWatch" (136 : Nat) (-1 : Int64)) ∈ WS := ws_in (List.mem_append_right _ (List.mem_append_left _ (List.mem_of_getElem? (i := 239) rfl))) (by decide +kernel)
theorem w_205 : (Jvm.Cond.constantLong "RaceWatch" (138 : Nat) (4 : Int64)) ∈ WS := ws_in (List.mem_append_right _ (List.mem_append_right _ (List.mem_append_left _ (List.mem_of_getElem? (i := 0) rfl)))) (by decide +kernel)
theorem w_206 : (Jvm.Cond.constantLong "RaceWatch" (140 : Nat) (64 : Int64)) ∈ WS := ws_in (List.mem_append_right _ (List.mem_append_right _ (List.mem_append_left _ (List.mem_of_getElem? (i := 1) rfl)))) (by decide +kernel)
theorem w_207 : (Jvm.Cond.methodLink "RaceWatchLaw" (57 : Nat) ({ cls := "RaceWatch", name := "holder", desc := "(I)I" } : Jvm.MethodName)) ∈ WS := ws_in (List.mem_append_right _ (List.mem_append_right _ (List.mem_append_left _ (List.mem_of_getElem? (i := 2) rfl)))) (by decide +kernel)
theorem w_208 : (Jvm.Cond.instanceMethod ({ cls := "RaceWatch", name := "holder", desc := "(I)I" } : Jvm.MethodName)) ∈ WS := ws_in (List.mem_append_right _ (List.mem_append_right _ (List.mem_append_left _ (List.mem_of_getElem? (i := 3) rfl)))) (by decide +kernel)
theorem w_209 : (Jvm.Cond.selects "RaceWatch" ({ cls := "RaceWatch", name := "holder", desc := "(I)I" } : Jvm.MethodName) ({ cls := "RaceWatch", name := "holder", desc := "(I)I" } : Jvm.MethodName)) ∈ WS := ws_in (List.mem_append_right _ (List.mem_append_right _ (List.mem_append_left _ (List.mem_of_getElem? (i := 4) rfl)))) (by decide +kernel)
theorem w_210 : (Jvm.Cond.code ({ cls := "RaceWatch", name := "holder", desc := "(I)I" } : Jvm.MethodName) prog_1_method_7_code (2 : Nat) (Option.some FieldType.int)) ∈ WS := ws_in (List.mem_append_right _ (List.mem_append_right _ (List.mem_append_left _ (List.mem_of_getElem? (i := 5) rfl)))) (by decide +kernel)
theorem w_211 : (Jvm.Cond.methodLink "RaceWatchLaw" (61 : Nat) ({ cls := "RaceWatch", name := "events", desc := "()I" } : Jvm.MethodName)) ∈ WS := ws_in (List.mem_append_right _ (List.mem_append_right _ (List.mem_append_left _ (List.mem_of_getElem? (i := 6) rfl)))) (by decide +kernel)
theorem w_212 : (Jvm.Cond.instanceMethod ({ cls := "RaceWatch", name := "events", desc := "()I" } : Jvm.MethodName)) ∈ WS := ws_in (List.mem_append_right _ (List.mem_append_right _ (List.mem_append_left _ (List.mem_of_getElem? (i := 7) rfl)))) (by decide +kernel)
theorem w_213 : (Jvm.Cond.selects "RaceWatch" ({ cls := "RaceWatch", name := "events", desc := "()I" } : Jvm.MethodName) ({ cls := "RaceWatch", name := "events", desc := "()I" } : Jvm.MethodName)) ∈ WS := ws_in (List.mem_append_right _ (List.mem_append_right _ (List.mem_append_left _ (List.mem_of_getElem? (i := 8) rfl)))) (by decide +kernel)
theorem w_214 : (Jvm.Cond.code ({ cls := "RaceWatch", name := "events", desc := "()I" } : Jvm.MethodName) prog_1_method_8_code (1 : Nat) (Option.some FieldType.int)) ∈ WS := ws_in (List.mem_append_right _ (List.mem_append_right _ (List.mem_append_left _ (List.mem_of_getElem? (i := 9) rfl)))) (by decide +kernel)
theorem w_215 : (Jvm.Cond.methodLink "RaceWatchLaw" (65 : Nat) ({ cls := "RaceWatch", name := "event", desc := "(I)I" } : Jvm.MethodName)) ∈ WS := ws_in (List.mem_append_right _ (List.mem_append_right _ (List.mem_append_left _ (List.mem_of_getElem? (i := 10) rfl)))) (by decide +kernel)
theorem w_216 : (Jvm.Cond.instanceMethod ({ cls := "RaceWatch", name := "event", desc := "(I)I" } : Jvm.MethodName)) ∈ WS := ws_in (List.mem_append_right _ (List.mem_append_right _ (List.mem_append_left _ (List.mem_of_getElem? (i := 11) rfl)))) (by decide +kernel)
theorem w_217 : (Jvm.Cond.selects "RaceWatch" ({ cls := "RaceWatch", name := "event", desc := "(I)I" } : Jvm.MethodName) ({ cls := "RaceWatch", name := "event", desc := "(I)I" } : Jvm.MethodName)) ∈ WS := ws_in (List.mem_append_right _ (List.mem_append_right _ (List.mem_append_left _ (List.mem_of_getElem? (i := 12) rfl)))) (by decide +kernel)
theorem w_218 : (Jvm.Cond.code ({ cls := "RaceWatch", name := "event", desc := "(I)I" } : Jvm.MethodName) prog_1_method_9_code (2 : Nat) (Option.some FieldType.int)) ∈ WS := ws_in (List.mem_append_right _ (List.mem_append_right _ (List.mem_append_left _ (List.mem_of_getElem? (i := 13) rfl)))) (by decide +kernel)
theorem w_219 : (Jvm.Cond.methodLinkNest "RaceWatch" (155 : Nat) ({ cls := "RaceWatch$Trace", name := "has", desc := "(I)Z" } : Jvm.MethodName) "RaceWatch") ∈ WS := ws_in (List.mem_append_right _ (List.mem_append_right _ (List.mem_append_left _ (List.mem_of_getElem? (i := 14) rfl)))) (by decide +kernel)
theorem w_220 : (Jvm.Cond.privateMethod ({ cls := "RaceWatch$Trace", name := "has", desc := "(I)Z" } : Jvm.MethodName)) ∈ WS := ws_in (List.mem_append_right _ (List.mem_append_right _ (List.mem_append_left _ (List.mem_of_getElem? (i := 15) rfl)))) (by decide +kernel)
theorem w_221 : (Jvm.Cond.instanceMethod ({ cls := "RaceWatch$Trace", name := "has", desc := "(I)Z" } : Jvm.MethodName)) ∈ WS := ws_in (List.mem_append_right _ (List.mem_append_right _ (List.mem_append_left _ (List.mem_of_getElem? (i := 16) rfl)))) (by decide +kernel)
theorem w_222 : (Jvm.Cond.code ({ cls := "RaceWatch$Trace", name := "has", desc := "(I)Z" } : Jvm.MethodName) prog_6_method_3_code (2 : Nat) (Option.some FieldType.boolean)) ∈ WS := ws_in (List.mem_append_right _ (List.mem_append_right _ (List.mem_append_left _ (List.mem_of_getElem? (i := 17) rfl)))) (by decide +kernel)
theorem w_223 : (Jvm.Cond.methodLink "RaceWatchLaw" (69 : Nat) ({ cls := "RaceWatch", name := "before", desc := "(II)Z" } : Jvm.MethodName)) ∈ WS := ws_in (List.mem_append_right _ (List.mem_append_right _ (List.mem_append_left _ (List.mem_of_getElem? (i := 18) rfl)))) (by decide +kernel)
theorem w_224 : (Jvm.Cond.instanceMethod ({ cls := "RaceWatch", name := "before", desc := "(II)Z" } : Jvm.MethodName)) ∈ WS := ws_in (List.mem_append_right _ (List.mem_append_right _ (List.mem_append_left _ (List.mem_of_getElem? (i := 19) rfl)))) (by decide +kernel)
theorem w_225 : (Jvm.Cond.selects "RaceWatch" ({ cls := "RaceWatch", name := "before", desc := "(II)Z" } : Jvm.MethodName) ({ cls := "RaceWatch", name := "before", desc := "(II)Z" } : Jvm.MethodName)) ∈ WS := ws_in (List.mem_append_right _ (List.mem_append_right _ (List.mem_append_left _ (List.mem_of_getElem? (i := 20) rfl)))) (by decide +kernel)
theorem w_226 : (Jvm.Cond.code ({ cls := "RaceWatch", name := "before", desc := "(II)Z" } : Jvm.MethodName) prog_1_method_10_code (3 : Nat) (Option.some FieldType.boolean)) ∈ WS := ws_in (List.mem_append_right _ (List.mem_append_right _ (List.mem_append_left _ (List.mem_of_getElem? (i := 21) rfl)))) (by decide +kernel)
theorem w_227 : (Jvm.Cond.methodLinkNest "RaceWatch" (161 : Nat) ({ cls := "RaceWatch$Trace", name := "isOrdered", desc := "(II)Z" } : Jvm.MethodName) "RaceWatch") ∈ WS := ws_in (List.mem_append_right _ (List.mem_append_right _ (List.mem_append_left _ (List.mem_of_getElem? (i := 22) rfl)))) (by decide +kernel)
theorem w_228 : (Jvm.Cond.privateMethod ({ cls := "RaceWatch$Trace", name := "isOrdered", desc := "(II)Z" } : Jvm.MethodName)) ∈ WS := ws_in (List.mem_append_right _ (List.mem_append_right _ (List.mem_append_left _ (List.mem_of_getElem? (i := 23) rfl)))) (by decide +kernel)
theorem w_229 : (Jvm.Cond.instanceMethod ({ cls := "RaceWatch$Trace", name := "isOrdered", desc := "(II)Z" } : Jvm.MethodName)) ∈ WS := ws_in (List.mem_append_right _ (List.mem_append_right _ (List.mem_append_left _ (List.mem_of_getElem? (i := 24) rfl)))) (by decide +kernel)
theorem w_230 : (Jvm.Cond.code ({ cls := "RaceWatch$Trace", name := "isOrdered", desc := "(II)Z" } : Jvm.MethodName) prog_6_method_6_code (4 : Nat) (Option.some FieldType.boolean)) ∈ WS := ws_in (List.mem_append_right _ (List.mem_append_right _ (List.mem_append_left _ (List.mem_of_getElem? (i := 25) rfl)))) (by decide +kernel)
theorem w_231 : (Jvm.Cond.methodLink "RaceWatch$Trace" (33 : Nat) ({ cls := "RaceWatch$Trace", name := "threadOf", desc := "(I)I" } : Jvm.MethodName)) ∈ WS := ws_in (List.mem_append_right _ (List.mem_append_right _ (List.mem_append_left _ (List.mem_of_getElem? (i := 26) rfl)))) (by decide +kernel)
theorem w_232 : (Jvm.Cond.privateMethod ({ cls := "RaceWatch$Trace", name := "threadOf", desc := "(I)I" } : Jvm.MethodName)) ∈ WS := ws_in (List.mem_append_right _ (List.mem_append_right _ (List.mem_append_left _ (List.mem_of_getElem? (i := 27) rfl)))) (by decide +kernel)
theorem w_233 : (Jvm.Cond.instanceMethod ({ cls := "RaceWatch$Trace", name := "threadOf", desc := "(I)I" } : Jvm.MethodName)) ∈ WS := ws_in (List.mem_append_right _ (List.mem_append_right _ (List.mem_append_left _ (List.mem_of_getElem? (i := 28) rfl)))) (by decide +kernel)
theorem w_234 : (Jvm.Cond.code ({ cls := "RaceWatch$Trace", name := "threadOf", desc := "(I)I" } : Jvm.MethodName) prog_6_method_5_code (2 : Nat) (Option.some FieldType.int)) ∈ WS := ws_in (List.mem_append_right _ (List.mem_append_right _ (List.mem_append_left _ (List.mem_of_getElem? (i := 29) rfl)))) (by decide +kernel)
theorem w_235 : (Jvm.Cond.methodLink "RaceWatchLaw" (74 : Nat) ({ cls := "RaceWatch", name := "race", desc := "(I)I" } : Jvm.MethodName)) ∈ WS := ws_in (List.mem_append_right _ (List.mem_append_right _ (List.mem_append_left _ (List.mem_of_getElem? (i := 30) rfl)))) (by decide +kernel)
theorem w_236 : (Jvm.Cond.instanceMethod ({ cls := "RaceWatch", name := "race", desc := "(I)I" } : Jvm.MethodName)) ∈ WS := ws_in (List.mem_append_right _ (List.mem_append_right _ (List.mem_append_left _ (List.mem_of_getElem? (i := 31) rfl)))) (by decide +kernel)
theorem w_237 : (Jvm.Cond.selects "RaceWatch" ({ cls := "RaceWatch", name := "race", desc := "(I)I" } : Jvm.MethodName) ({ cls := "RaceWatch", name := "race", desc := "(I)I" } : Jvm.MethodName)) ∈ WS := ws_in (List.mem_append_right _ (List.mem_append_right _ (List.mem_append_left _ (List.mem_of_getElem? (i := 32) rfl)))) (by decide +kernel)
theorem w_238 : (Jvm.Cond.code ({ cls := "RaceWatch", name := "race", desc := "(I)I" } : Jvm.MethodName) prog_1_method_11_code (2 : Nat) (Option.some FieldType.int)) ∈ WS := ws_in (List.mem_append_right _ (List.mem_append_right _ (List.mem_append_left _ (List.mem_of_getElem? (i := 33) rfl)))) (by decide +kernel)
theorem w_239 : (Jvm.Cond.methodLink "RaceWatch" (167 : Nat) ({ cls := "RaceWatch", name := "ownBook", desc := "()LRaceWatch$RaceBook;" } : Jvm.MethodName)) ∈ WS := ws_in (List.mem_append_right _ (List.mem_append_right _ (List.mem_append_left _ (List.mem_of_getElem? (i := 34) rfl)))) (by decide +kernel)
theorem w_240 : (Jvm.Cond.privateMethod ({ cls := "RaceWatch", name := "ownBook", desc := "()LRaceWatch$RaceBook;" } : Jvm.MethodName)) ∈ WS := ws_in (List.mem_append_right _ (List.mem_append_right _ (List.mem_append_left _ (List.mem_of_getElem? (i := 35) rfl)))) (by decide +kernel)
theorem w_241 : (Jvm.Cond.instanceMethod ({ cls := "RaceWatch", name := "ownBook", desc := "()LRaceWatch$RaceBook;" } : Jvm.MethodName)) ∈ WS := ws_in (List.mem_append_right _ (List.mem_append_right _ (List.mem_append_left _ (List.mem_of_getElem? (i := 36) rfl)))) (by decide +kernel)
theorem w_242 : (Jvm.Cond.code ({ cls := "RaceWatch", name := "ownBook", desc := "()LRaceWatch$RaceBook;" } : Jvm.MethodName) prog_1_method_15_code (1 : Nat) (Option.some (FieldType.object "RaceWatch$RaceBook"))) ∈ WS := ws_in (List.mem_append_right _ (List.mem_append_right _ (List.mem_append_left _ (List.mem_of_getElem? (i := 37) rfl)))) (by decide +kernel)
theorem w_243 : (Jvm.Cond.methodLink "RaceWatch" (186 : Nat) ({ cls := "RaceWatch", name := "bookOf", desc := "(Z)LRaceWatch$RaceBook;" } : Jvm.MethodName)) ∈ WS := ws_in (List.mem_append_right _ (List.mem_append_right _ (List.mem_append_left _ (List.mem_of_getElem? (i := 38) rfl)))) (by decide +kernel)
theorem w_244 : (Jvm.Cond.privateMethod ({ cls := "RaceWatch", name := "bookOf", desc := "(Z)LRaceWatch$RaceBook;" } : Jvm.MethodName)) ∈ WS := ws_in (List.mem_append_right _ (List.mem_append_right _ (List.mem_append_left _ (List.mem_of_getElem? (i := 39) rfl)))) (by decide +kernel)
theorem w_245 : (Jvm.Cond.instanceMethod ({ cls := "RaceWatch", name := "bookOf", desc := "(Z)LRaceWatch$RaceBook;" } : Jvm.MethodName)) ∈ WS := ws_in (List.mem_append_right _ (List.mem_append_right _ (List.mem_append_left _ (List.mem_of_getElem? (i := 40) rfl)))) (by decide +kernel)
theorem w_246 : (Jvm.Cond.code ({ cls := "RaceWatch", name := "bookOf", desc := "(Z)LRaceWatch$RaceBook;" } : Jvm.MethodName) prog_1_method_16_code (2 : Nat) (Option.some (FieldType.object "RaceWatch$RaceBook"))) ∈ WS := ws_in (List.mem_append_right _ (List.mem_append_right _ (List.mem_append_left _ (List.mem_of_getElem? (i := 41) rfl)))) (by decide +kernel)
theorem w_247 : (Jvm.Cond.methodLink "RaceWatchLaw" (78 : Nat) ({ cls := "RaceWatch", name := "partner", desc := "(I)I" } : Jvm.MethodName)) ∈ WS := ws_in (List.mem_append_right _ (List.mem_append_right _ (List.mem_append_left _ (List.mem_of_getElem? (i := 42) rfl)))) (by decide +kernel)
theorem w_248 : (Jvm.Cond.instanceMethod ({ cls := "RaceWatch", name := "partner", desc := "(I)I" } : Jvm.MethodName)) ∈ WS := ws_in (List.mem_append_right _ (List.mem_append_right _ (List.mem_append_left _ (List.mem_of_getElem? (i := 43) rfl)))) (by decide +kernel)
theorem w_249 : (Jvm.Cond.selects "RaceWatch" ({ cls := "RaceWatch", name := "partner", desc := "(I)I" } : Jvm.MethodName) ({ cls := "RaceWatch", name := "partner", desc := "(I)I" } : Jvm.MethodName)) ∈ WS := ws_in (List.mem_append_right _ (List.mem_append_right _ (List.mem_append_left _ (List.mem_of_getElem? (i := 44) rfl)))) (by decide +kernel)
theorem w_250 : (Jvm.Cond.code ({ cls := "RaceWatch", name := "partner", desc := "(I)I" } : Jvm.MethodName) prog_1_method_12_code (2 : Nat) (Option.some FieldType.int)) ∈ WS := ws_in (List.mem_append_right _ (List.mem_append_right _ (List.mem_append_left _ (List.mem_of_getElem? (i := 45) rfl)))) (by decide +kernel)
theorem w_251 : (Jvm.Cond.methodLink "RaceWatchLaw" (82 : Nat) ({ cls := "RaceWatch", name := "races", desc := "()I" } : Jvm.MethodName)) ∈ WS := ws_in (List.mem_append_right _ (List.mem_append_right _ (List.mem_append_left _ (List.mem_of_getElem? (i := 46) rfl)))) (by decide +kernel)
theorem w_252 : (Jvm.Cond.instanceMethod ({ cls := "RaceWatch", name := "races", desc := "()I" } : Jvm.MethodName)) ∈ WS := ws_in (List.mem_append_right _ (List.mem_append_right _ (List.mem_append_left _ (List.mem_of_getElem? (i := 47) rfl)))) (by decide +kernel)
theorem w_253 : (Jvm.Cond.selects "RaceWatch" ({ cls := "RaceWatch", name := "races", desc := "()I" } : Jvm.MethodName) ({ cls := "RaceWatch", name := "races", desc := "()I" } : Jvm.MethodName)) ∈ WS := ws_in (List.mem_append_right _ (List.mem_append_right _ (List.mem_append_left _ (List.mem_of_getElem? (i := 48) rfl)))) (by decide +kernel)
theorem w_254 : (Jvm.Cond.code ({ cls := "RaceWatch", name := "races", desc := "()I" } : Jvm.MethodName) prog_1_method_13_code (1 : Nat) (Option.some FieldType.int)) ∈ WS := ws_in (List.mem_append_right _ (List.mem_append_right _ (List.mem_append_left _ (List.mem_of_getElem? (i := 49) rfl)))) (by decide +kernel)
theorem w_255 : (Jvm.Cond.methodLinkNest "RaceWatch" (177 : Nat) ({ cls := "RaceWatch$RaceBook", name := "placesWithin", desc := "(I)I" } : Jvm.MethodName) "RaceWatch") ∈ WS := ws_in (List.mem_append_right _ (List.mem_append_right _ (List.mem_append_left _ (List.mem_of_getElem? (i := 50) rfl)))) (by decide +kernel)
theorem w_256 : (Jvm.Cond.privateMethod ({ cls := "RaceWatch$RaceBook", name := "placesWithin", desc := "(I)I" } : Jvm.MethodName)) ∈ WS := ws_in (List.mem_append_right _ (List.mem_append_right _ (List.mem_append_left _ (List.mem_of_getElem? (i := 51) rfl)))) (by decide +kernel)
theorem w_257 : (Jvm.Cond.instanceMethod ({ cls := "RaceWatch$RaceBook", name := "placesWithin", desc := "(I)I" } : Jvm.MethodName)) ∈ WS := ws_in (List.mem_append_right _ (List.mem_append_right _ (List.mem_append_left _ (List.mem_of_getElem? (i := 52) rfl)))) (by decide +kernel)
theorem w_258 : (Jvm.Cond.code ({ cls := "RaceWatch$RaceBook", name := "placesWithin", desc := "(I)I" } : Jvm.MethodName) prog_5_method_6_code (4 : Nat) (Option.some FieldType.int)) ∈ WS := ws_in (List.mem_append_right _ (List.mem_append_right _ (List.mem_append_left _ (List.mem_of_getElem? (i := 53) rfl)))) (by decide +kernel)
theorem w_259 : (Jvm.Cond.methodLink "RaceWatch" (181 : Nat) ({ cls := "java/lang/Integer", name := "bitCount", desc := "(I)I" } : Jvm.MethodName)) ∈ WS := ws_in (List.mem_append_right _ (List.mem_append_right _ (List.mem_append_left _ (List.mem_of_getElem? (i := 54) rfl)))) (by decide +kernel)
theorem w_260 : (Jvm.Cond.static ({ cls := "java/lang/Integer", name := "bitCount", desc := "(I)I" } : Jvm.MethodName)) ∈ WS := ws_in (List.mem_append_right _ (List.mem_append_right _ (List.mem_append_left _ (List.mem_of_getElem? (i := 55) rfl)))) (by decide +kernel)
theorem w_261 : (Jvm.Cond.code ({ cls := "java/lang/Integer", name := "bitCount", desc := "(I)I" } : Jvm.MethodName) prog_14_method_49_code (1 : Nat) (Option.some FieldType.int)) ∈ WS := ws_in (List.mem_append_right _ (List.mem_append_right _ (List.mem_append_left _ (List.mem_of_getElem? (i := 56) rfl)))) (by decide +kernel)
theorem w_262 : (Jvm.Cond.constant "java/lang/Integer" (265 : Nat) (1431655765 : Int32)) ∈ WS := ws_in (List.mem_append_right _ (List.mem_append_right _ (List.mem_append_left _ (List.mem_of_getElem? (i := 57) rfl)))) (by decide +kernel)
theorem w_263 : (Jvm.Cond.constant "java/lang/Integer" (266 : Nat) (858993459 : Int32)) ∈ WS := ws_in (List.mem_append_right _ (List.mem_append_right _ (List.mem_append_left _ (List.mem_of_getElem? (i := 58) rfl)))) (by decide +kernel)
theorem w_264 : (Jvm.Cond.constant "java/lang/Integer" (267 : Nat) (252645135 : Int32)) ∈ WS := ws_in (List.mem_append_right _ (List.mem_append_right _ (List.mem_append_left _ (List.mem_of_getElem? (i := 59) rfl)))) (by decide +kernel)
theorem w_265 : (Jvm.Cond.methodLink "RaceWatchLaw" (86 : Nat) ({ cls := "RaceWatch", name := "again", desc := "(IZ)I" } : Jvm.MethodName)) ∈ WS := ws_in (List.mem_append_right _ (List.mem_append_right _ (List.mem_append_left _ (List.mem_of_getElem? (i := 60) rfl)))) (by decide +kernel)
theorem w_266 : (Jvm.Cond.instanceMethod ({ cls := "RaceWatch", name := "again", desc := "(IZ)I" } : Jvm.MethodName)) ∈ WS := ws_in (List.mem_append_right _ (List.mem_append_right _ (List.mem_append_left _ (List.mem_of_getElem? (i := 61) rfl)))) (by decide +kernel)
theorem w_267 : (Jvm.Cond.selects "RaceWatch" ({ cls := "RaceWatch", name := "again", desc := "(IZ)I" } : Jvm.MethodName) ({ cls := "RaceWatch", name := "again", desc := "(IZ)I" } : Jvm.MethodName)) ∈ WS := ws_in (List.mem_append_right _ (List.mem_append_right _ (List.mem_append_left _ (List.mem_of_getElem? (i := 62) rfl)))) (by decide +kernel)
theorem w_268 : (Jvm.Cond.code ({ cls := "RaceWatch", name := "again", desc := "(IZ)I" } : Jvm.MethodName) prog_1_method_14_code (3 : Nat) (Option.some FieldType.int)) ∈ WS := ws_in (List.mem_append_right _ (List.mem_append_right _ (List.mem_append_left _ (List.mem_of_getElem? (i := 63) rfl)))) (by decide +kernel)
theorem w_269 : (Jvm.Cond.methodLink "RaceWatchLaw" (38 : Nat) ({ cls := "RaceWatchLaw", name := "start", desc := "(LRaceWatch;Z[J)I" } : Jvm.MethodName)) ∈ WS := ws_in (List.mem_append_right _ (List.mem_append_right _ (List.mem_append_left _ (List.mem_of_getElem? (i := 64) rfl)))) (by decide +kernel)
theorem w_270 : (Jvm.Cond.static ({ cls := "RaceWatchLaw", name := "start", desc := "(LRaceWatch;Z[J)I" } : Jvm.MethodName)) ∈ WS := ws_in (List.mem_append_right _ (List.mem_append_right _ (List.mem_append_left _ (List.mem_of_getElem? (i := 65) rfl)))) (by decide +kernel)
theorem w_271 : (Jvm.Cond.codeWith ({ cls := "RaceWatchLaw", name := "start", desc := "(LRaceWatch;Z[J)I" } : Jvm.MethodName) method_3_code (4 : Nat) (Option.some FieldType.int) [((0 : Nat), (9 : Nat), (12 : Nat), (13 : Nat)), ((0 : Nat), (9 : Nat), (15 : Nat), (15 : Nat))]) ∈ WS := ws_in (List.mem_append_right _ (List.mem_append_right _ (List.mem_append_left _ (List.mem_of_getElem? (i := 66) rfl)))) (by decide +kernel)
theorem w_272 : (Jvm.Cond.classLink "RaceWatchLaw" (13 : Nat) "java/lang/IllegalStateException") ∈ WS := ws_in (List.mem_append_right _ (List.mem_append_right _ (List.mem_append_left _ (List.mem_of_getElem? (i := 67) rfl)))) (by decide +kernel)
theorem w_273 : (Jvm.Cond.classLink "RaceWatchLaw" (15 : Nat) "java/lang/IllegalArgumentException") ∈ WS := ws_in (List.mem_append_right _ (List.mem_append_right _ (List.mem_append_left _ (List.mem_of_getElem? (i := 68) rfl)))) (by decide +kernel)
theorem w_274 : (Jvm.Cond.methodLink "RaceWatchLaw" (7 : Nat) ({ cls := "RaceWatch", name := "start", desc := "(Z)I" } : Jvm.MethodName)) ∈ WS := ws_in (List.mem_append_right _ (List.mem_append_right _ (List.mem_append_left _ (List.mem_of_getElem? (i := 69) rfl)))) (by decide +kernel)
theorem w_275 : (Jvm.Cond.instanceMethod ({ cls := "RaceWatch", name := "start", desc := "(Z)I" } : Jvm.MethodName)) ∈ WS := ws_in (List.mem_append_right _ (List.mem_append_right _ (List.mem_append_left _ (List.mem_of_getElem? (i := 70) rfl)))) (by decide +kernel)
theorem w_276 : (Jvm.Cond.selects "RaceWatch" ({ cls := "RaceWatch", name := "start", desc := "(Z)I" } : Jvm.MethodName) ({ cls := "RaceWatch", name := "start", desc := "(Z)I" } : Jvm.MethodName)) ∈ WS := ws_in (List.mem_append_right _ (List.mem_append_right _ (List.mem_append_left _ (List.mem_of_getElem? (i := 71) rfl)))) (by decide +kernel)
theorem w_277 : (Jvm.Cond.code ({ cls := "RaceWatch", name := "start", desc := "(Z)I" } : Jvm.MethodName) prog_1_method_4_code (2 : Nat) (Option.some FieldType.int)) ∈ WS := ws_in (List.mem_append_right _ (List.mem_append_right _ (List.mem_append_left _ (List.mem_of_getElem? (i := 72) rfl)))) (by decide +kernel)
theorem w_278 : (Jvm.Cond.classLink "RaceWatch" (85 : Nat) "java/lang/IllegalStateException") ∈ WS := ws_in (List.mem_append_right _ (List.mem_append_right _ (List.mem_append_left _ (List.mem_of_getElem? (i := 73) rfl)))) (by decide +kernel)
theorem w_279 : (Jvm.Cond.instantiable "java/lang/IllegalStateException" (6 : Nat)) ∈ WS := ws_in (List.mem_append_right _ (List.mem_append_right _ (List.mem_append_left _ (List.mem_of_getElem? (i := 74) rfl)))) (by decide +kernel)
theorem w_280 : (Jvm.Cond.castable "java/lang/IllegalStateException" "java/lang/IllegalStateException") ∈ WS := ws_in (List.mem_append_right _ (List.mem_append_right _ (List.mem_append_left _ (List.mem_of_getElem? (i := 75) rfl)))) (by decide +kernel)
theorem w_281 : (Jvm.Cond.declares ({ cls := "java/lang/RuntimeException", name := "<init>", desc := "()V" } : Jvm.MethodName)) ∈ WS := ws_in (List.mem_append_right _ (List.mem_append_right _ (List.mem_append_left _ (List.mem_of_getElem? (i := 76) rfl)))) (by decide +kernel)
theorem w_282 : (Jvm.Cond.declares ({ cls := "java/lang/RuntimeException", name := "<init>", desc := "(Ljava/lang/String;)V" } : Jvm.MethodName)) ∈ WS := ws_in (List.mem_append_right _ (List.mem_append_right _ (List.mem_append_left _ (List.mem_of_getElem? (i := 77) rfl)))) (by decide +kernel)
theorem w_283 : (Jvm.Cond.declares ({ cls := "java/lang/Exception", name := "<init>", desc := "()V" } : Jvm.MethodName)) ∈ WS := ws_in (List.mem_append_right _ (List.mem_append_right _ (List.mem_append_left _ (List.mem_of_getElem? (i := 78) rfl)))) (by decide +kernel)
theorem w_284 : (Jvm.Cond.declares ({ cls := "java/lang/Exception", name := "<init>", desc := "(Ljava/lang/String;)V" } : Jvm.MethodName)) ∈ WS := ws_in (List.mem_append_right _ (List.mem_append_right _ (List.mem_append_left _ (List.mem_of_getElem? (i := 79) rfl)))) (by decide +kernel)
theorem w_285 : (Jvm.Cond.declares ({ cls := "java/lang/Throwable", name := "<init>", desc := "()V" } : Jvm.MethodName)) ∈ WS := ws_in (List.mem_append_right _ (List.mem_append_right _ (List.mem_append_left _ (List.mem_of_getElem? (i := 80) rfl)))) (by decide +kernel)
theorem w_286 : (Jvm.Cond.declares ({ cls := "java/lang/Throwable", name := "<init>", desc := "(Ljava/lang/String;)V" } : Jvm.MethodName)) ∈ WS := ws_in (List.mem_append_right _ (List.mem_append_right _ (List.mem_append_left _ (List.mem_of_getElem? (i := 81) rfl)))) (by decide +kernel)
theorem w_287 : (Jvm.Cond.selects "java/lang/IllegalStateException" ({ cls := "java/lang/Throwable", name := "fillInStackTrace", desc := "(I)Ljava/lang/Throwable;" } : Jvm.MethodName) ({ cls := "java/lang/Throwable", name := "fillInStackTrace", desc := "(I)Ljava/lang/Throwable;" } : Jvm.MethodName)) ∈ WS := ws_in (List.mem_append_right _ (List.mem_append_right _ (List.mem_append_left _ (List.mem_of_getElem? (i := 82) rfl)))) (by decide +kernel)
theorem w_288 : (Jvm.Cond.selects "java/lang/IllegalStateException" ({ cls := "java/lang/Throwable", name := "fillInStackTrace", desc := "()Ljava/lang/Throwable;" } : Jvm.MethodName) ({ cls := "java/lang/Throwable", name := "fillInStackTrace", desc := "()Ljava/lang/Throwable;" } : Jvm.MethodName)) ∈ WS := ws_in (List.mem_append_right _ (List.mem_append_right _ (List.mem_append_left _ (List.mem_of_getElem? (i := 83) rfl)))) (by decide +kernel)
theorem w_289 : (Jvm.Cond.lays "java/lang/IllegalStateException" "java/lang/Throwable" "cause" "Ljava/lang/Throwable;") ∈ WS := ws_in (List.mem_append_right _ (List.mem_append_right _ (List.mem_append_left _ (List.mem_of_getElem? (i := 84) rfl)))) (by decide +kernel)
theorem w_290 : (Jvm.Cond.lays "java/lang/Throwable" "java/lang/Throwable" "cause" "Ljava/lang/Throwable;") ∈ WS := ws_in (List.mem_append_right _ (List.mem_append_right _ (List.mem_append_left _ (List.mem_of_getElem? (i := 85) rfl)))) (by decide +kernel)
theorem w_291 : (Jvm.Cond.lays "java/lang/IllegalStateException" "java/lang/Throwable" "stackTrace" "[Ljava/lang/StackTraceElement;") ∈ WS := ws_in (List.mem_append_right _ (List.mem_append_right _ (List.mem_append_left _ (List.mem_of_getElem? (i := 86) rfl)))) (by decide +kernel)
theorem w_292 : (Jvm.Cond.lays "java/lang/Throwable" "java/lang/Throwable" "stackTrace" "[Ljava/lang/StackTraceElement;") ∈ WS := ws_in (List.mem_append_right _ (List.mem_append_right _ (List.mem_append_left _ (List.mem_of_getElem? (i := 87) rfl)))) (by decide +kernel)
theorem w_293 : (Jvm.Cond.lays "java/lang/IllegalStateException" "java/lang/Throwable" "suppressedExceptions" "Ljava/util/List;") ∈ WS := ws_in (List.mem_append_right _ (List.mem_append_right _ (List.mem_append_left _ (List.mem_of_getElem? (i := 88) rfl)))) (by decide +kernel)
theorem w_294 : (Jvm.Cond.lays "java/lang/Throwable" "java/lang/Throwable" "suppressedExceptions" "Ljava/util/List;") ∈ WS := ws_in (List.mem_append_right _ (List.mem_append_right _ (List.mem_append_left _ (List.mem_of_getElem? (i := 89) rfl)))) (by decide +kernel)
theorem w_295 : (Jvm.Cond.lays "java/lang/IllegalStateException" "java/lang/Throwable" "detailMessage" "Ljava/lang/String;") ∈ WS := ws_in (List.mem_append_right _ (List.mem_append_right _ (List.mem_append_left _ (List.mem_of_getElem? (i := 90) rfl)))) (by decide +kernel)
theorem w_296 : (Jvm.Cond.lays "java/lang/Throwable" "java/lang/Throwable" "detailMessage" "Ljava/lang/String;") ∈ WS := ws_in (List.mem_append_right _ (List.mem_append_right _ (List.mem_append_left _ (List.mem_of_getElem? (i := 91) rfl)))) (by decide +kernel)
theorem w_297 : (Jvm.Cond.lays "java/lang/IllegalStateException" "java/lang/Throwable" "backtrace" "Ljava/lang/Object;") ∈ WS := ws_in (List.mem_append_right _ (List.mem_append_right _ (List.mem_append_left _ (List.mem_of_getElem? (i := 92) rfl)))) (by decide +kernel)
theorem w_298 : (Jvm.Cond.lays "java/lang/Throwable" "java/lang/Throwable" "backtrace" "Ljava/lang/Object;") ∈ WS := ws_in (List.mem_append_right _ (List.mem_append_right _ (List.mem_append_left _ (List.mem_of_getElem? (i := 93) rfl)))) (by decide +kernel)
theorem w_299 : (Jvm.Cond.fieldLink "java/lang/Throwable" (198 : Nat) "java/lang/Throwable" "backtrace" "Ljava/lang/Object;") ∈ WS := ws_in (List.mem_append_right _ (List.mem_append_right _ (List.mem_append_left _ (List.mem_of_getElem? (i := 94) rfl)))) (by decide +kernel)
theorem w_300 : (Jvm.Cond.instanceMethod ({ cls := "java/lang/Throwable", name := "<init>", desc := "()V" } : Jvm.MethodName)) ∈ WS := ws_in (List.mem_append_right _ (List.mem_append_right _ (List.mem_append_left _ (List.mem_of_getElem? (i := 96) rfl)))) (by decide +kernel)
theorem w_301 : (Jvm.Cond.code ({ cls := "java/lang/Throwable", name := "<init>", desc := "()V" } : Jvm.MethodName) prog_18_method_1_code (1 : Nat) (Option.none : Option FieldType)) ∈ WS := ws_in (List.mem_append_right _ (List.mem_append_right _ (List.mem_append_left _ (List.mem_of_getElem? (i := 97) rfl)))) (by decide +kernel)
theorem w_302 : (Jvm.Cond.methodLink "java/lang/Throwable" (1 : Nat) ({ cls := "java/lang/Object", name := "<init>", desc := "()V" } : Jvm.MethodName)) ∈ WS := ws_in (List.mem_append_right _ (List.mem_append_right _ (List.mem_append_left _ (List.mem_of_getElem? (i := 98) rfl)))) (by decide +kernel)
theorem w_303 : (Jvm.Cond.fieldLink "java/lang/Throwable" (13 : Nat) "java/lang/Throwable" "UNASSIGNED_STACK" "[Ljava/lang/StackTraceElement;") ∈ WS := ws_in (List.mem_append_right _ (List.mem_append_right _ (List.mem_append_left _ (List.mem_of_getElem? (i := 99) rfl)))) (by decide +kernel)
theorem w_304 : (Jvm.Cond.fieldLink "java/lang/Throwable" (20 : Nat) "java/lang/Throwable" "SUPPRESSED_SENTINEL" "Ljava/util/List;") ∈ WS := ws_in (List.mem_append_right _ (List.mem_append_right _ (List.mem_append_left _ (List.mem_of_getElem? (i := 101) rfl)))) (by decide +kernel)
theorem w_305 : (Jvm.Cond.methodLink "java/lang/Throwable" (27 : Nat) ({ cls := "java/lang/Throwable", name := "fillInStackTrace", desc := "()Ljava/lang/Throwable;" } : Jvm.MethodName)) ∈ WS := ws_in (List.mem_append_right _ (List.mem_append_right _ (List.mem_append_left _ (List.mem_of_getElem? (i := 103) rfl)))) (by decide +kernel)
theorem w_306 : (Jvm.Cond.instanceMethod ({ cls := "java/lang/Throwable", name := "fillInStackTrace", desc := "()Ljava/lang/Throwable;" } : Jvm.MethodName)) ∈ WS := ws_in (List.mem_append_right _ (List.mem_append_right _ (List.mem_append_left _ (List.mem_of_getElem? (i := 104) rfl)))) (by decide +kernel)
theorem w_307 : (Jvm.Cond.selects "java/lang/IllegalArgumentException" ({ cls := "java/lang/Throwable", name := "fillInStackTrace", desc := "()Ljava/lang/Throwable;" } : Jvm.MethodName) ({ cls := "java/lang/Throwable", name := "fillInStackTrace", desc := "()Ljava/lang/Throwable;" } : Jvm.MethodName)) ∈ WS := ws_in (List.mem_append_right _ (List.mem_append_right _ (List.mem_append_left _ (List.mem_of_getElem? (i := 106) rfl)))) (by decide +kernel)
theorem w_308 : (Jvm.Cond.selects "java/lang/IndexOutOfBoundsException" ({ cls := "java/lang/Throwable", name := "fillInStackTrace", desc := "()Ljava/lang/Throwable;" } : Jvm.MethodName) ({ cls := "java/lang/Throwable", name := "fillInStackTrace", desc := "()Ljava/lang/Throwable;" } : Jvm.MethodName)) ∈ WS := ws_in (List.mem_append_right _ (List.mem_append_right _ (List.mem_append_left _ (List.mem_of_getElem? (i := 107) rfl)))) (by decide +kernel)
theorem w_309 : (Jvm.Cond.selects "java/lang/UnsupportedOperationException" ({ cls := "java/lang/Throwable", name := "fillInStackTrace", desc := "()Ljava/lang/Throwable;" } : Jvm.MethodName) ({ cls := "java/lang/Throwable", name := "fillInStackTrace", desc := "()Ljava/lang/Throwable;" } : Jvm.MethodName)) ∈ WS := ws_in (List.mem_append_right _ (List.mem_append_right _ (List.mem_append_left _ (List.mem_of_getElem? (i := 108) rfl)))) (by decide +kernel)
theorem w_310 : (Jvm.Cond.codeSync ({ cls := "java/lang/Throwable", name := "fillInStackTrace", desc := "()Ljava/lang/Throwable;" } : Jvm.MethodName) prog_18_method_18_code (1 : Nat) (Option.some (FieldType.object "java/lang/Throwable"))) ∈ WS := ws_in (List.mem_append_right _ (List.mem_append_right _ (List.mem_append_left _ (List.mem_of_getElem? (i := 109) rfl)))) (by decide +kernel)
theorem w_311 : (Jvm.Cond.methodLink "java/lang/Throwable" (202 : Nat) ({ cls := "java/lang/Throwable", name := "fillInStackTrace", desc := "(I)Ljava/lang/Throwable;" } : Jvm.MethodName)) ∈ WS := ws_in (List.mem_append_right _ (List.mem_append_right _ (List.mem_append_left _ (List.mem_of_getElem? (i := 110) rfl)))) (by decide +kernel)
theorem w_312 : (Jvm.Cond.privateMethod ({ cls := "java/lang/Throwable", name := "fillInStackTrace", desc := "(I)Ljava/lang/Throwable;" } : Jvm.MethodName)) ∈ WS := ws_in (List.mem_append_right _ (List.mem_append_right _ (List.mem_append_left _ (List.mem_of_getElem? (i := 111) rfl)))) (by decide +kernel)
theorem w_313 : (Jvm.Cond.instanceMethod ({ cls := "java/lang/Throwable", name := "fillInStackTrace", desc := "(I)Ljava/lang/Throwable;" } : Jvm.MethodName)) ∈ WS := ws_in (List.mem_append_right _ (List.mem_append_right _ (List.mem_append_left _ (List.mem_of_getElem? (i := 112) rfl)))) (by decide +kernel)
theorem w_314 : (Jvm.Cond.instantiable "java/lang/Throwable" (6 : Nat)) ∈ WS := ws_in (List.mem_append_right _ (List.mem_append_right _ (List.mem_append_left _ (List.mem_of_getElem? (i := 113) rfl)))) (by decide +kernel)
theorem w_315 : (Jvm.Cond.native ({ cls := "java/lang/Throwable", name := "fillInStackTrace", desc := "(I)Ljava/lang/Throwable;" } : Jvm.MethodName)) ∈ WS := ws_in (List.mem_append_right _ (List.mem_append_right _ (List.mem_append_left _ (List.mem_of_getElem? (i := 114) rfl)))) (by decide +kernel)
theorem w_316 : (Jvm.Cond.methodLink "RaceWatch" (87 : Nat) ({ cls := "java/lang/IllegalStateException", name := "<init>", desc := "()V" } : Jvm.MethodName)) ∈ WS := ws_in (List.mem_append_right _ (List.mem_append_right _ (List.mem_append_left _ (List.mem_of_getElem? (i := 115) rfl)))) (by decide +kernel)
theorem w_317 : (Jvm.Cond.instanceMethod ({ cls := "java/lang/IllegalStateException", name := "<init>", desc := "()V" } : Jvm.MethodName)) ∈ WS := ws_in (List.mem_append_right _ (List.mem_append_right _ (List.mem_append_left _ (List.mem_of_getElem? (i := 116) rfl)))) (by decide +kernel)
theorem w_318 : (Jvm.Cond.code ({ cls := "java/lang/IllegalStateException", name := "<init>", desc := "()V" } : Jvm.MethodName) prog_12_method_1_code (1 : Nat) (Option.none : Option FieldType)) ∈ WS := ws_in (List.mem_append_right _ (List.mem_append_right _ (List.mem_append_left _ (List.mem_of_getElem? (i := 117) rfl)))) (by decide +kernel)
theorem w_319 : (Jvm.Cond.methodLink "java/lang/IllegalStateException" (1 : Nat) ({ cls := "java/lang/RuntimeException", name := "<init>", desc := "()V" } : Jvm.MethodName)) ∈ WS := ws_in (List.mem_append_right _ (List.mem_append_right _ (List.mem_append_left _ (List.mem_of_getElem? (i := 118) rfl)))) (by decide +kernel)
theorem w_320 : (Jvm.Cond.instanceMethod ({ cls := "java/lang/RuntimeException", name := "<init>", desc := "()V" } : Jvm.MethodName)) ∈ WS := ws_in (List.mem_append_right _ (List.mem_append_right _ (List.mem_append_left _ (List.mem_of_getElem? (i := 119) rfl)))) (by decide +kernel)
theorem w_321 : (Jvm.Cond.code ({ cls := "java/lang/RuntimeException", name := "<init>", desc := "()V" } : Jvm.MethodName) prog_16_method_1_code (1 : Nat) (Option.none : Option FieldType)) ∈ WS := ws_in (List.mem_append_right _ (List.mem_append_right _ (List.mem_append_left _ (List.mem_of_getElem? (i := 120) rfl)))) (by decide +kernel)
theorem w_322 : (Jvm.Cond.methodLink "java/lang/RuntimeException" (1 : Nat) ({ cls := "java/lang/Exception", name := "<init>", desc := "()V" } : Jvm.MethodName)) ∈ WS := ws_in (List.mem_append_right _ (List.mem_append_right _ (List.mem_append_left _ (List.mem_of_getElem? (i := 121) rfl)))) (by decide +kernel)
theorem w_323 : (Jvm.Cond.instanceMethod ({ cls := "java/lang/Exception", name := "<init>", desc := "()V" } : Jvm.MethodName)) ∈ WS := ws_in (List.mem_append_right _ (List.mem_append_right _ (List.mem_append_left _ (List.mem_of_getElem? (i := 122) rfl)))) (by decide +kernel)
theorem w_324 : (Jvm.Cond.code ({ cls := "java/lang/Exception", name := "<init>", desc := "()V" } : Jvm.MethodName) prog_10_method_1_code (1 : Nat) (Option.none : Option FieldType)) ∈ WS := ws_in (List.mem_append_right _ (List.mem_append_right _ (List.mem_append_left _ (List.mem_of_getElem? (i := 123) rfl)))) (by decide +kernel)
theorem w_325 : (Jvm.Cond.methodLink "java/lang/Exception" (1 : Nat) ({ cls := "java/lang/Throwable", name := "<init>", desc := "()V" } : Jvm.MethodName)) ∈ WS := ws_in (List.mem_append_right _ (List.mem_append_right _ (List.mem_append_left _ (List.mem_of_getElem? (i := 124) rfl)))) (by decide +kernel)
theorem w_326 : (Jvm.Cond.fieldLink "java/lang/Throwable" (198 : Nat) "java/lang/Throwable" "backtrace" "Ljava/lang/Object;") ∈ WS := ws_in (List.mem_append_right _ (List.mem_append_right _ (List.mem_append_left _ (List.mem_of_getElem? (i := 125) rfl)))) (by decide +kernel)
theorem w_327 : (Jvm.Cond.fieldLink "java/lang/Throwable" (7 : Nat) "java/lang/Throwable" "cause" "Ljava/lang/Throwable;") ∈ WS := ws_in (List.mem_append_right _ (List.mem_append_right _ (List.mem_append_left _ (List.mem_of_getElem? (i := 126) rfl)))) (by decide +kernel)
theorem w_328 : (Jvm.Cond.fieldLink "java/lang/Throwable" (17 : Nat) "java/lang/Throwable" "stackTrace" "[Ljava/lang/StackTraceElement;") ∈ WS := ws_in (List.mem_append_right _ (List.mem_append_right _ (List.mem_append_left _ (List.mem_of_getElem? (i := 127) rfl)))) (by decide +kernel)
theorem w_329 : (Jvm.Cond.fieldLink "java/lang/Throwable" (24 : Nat) "java/lang/Throwable" "suppressedExceptions" "Ljava/util/List;") ∈ WS := ws_in (List.mem_append_right _ (List.mem_append_right _ (List.mem_append_left _ (List.mem_of_getElem? (i := 128) rfl)))) (by decide +kernel)
theorem w_330 : (Jvm.Cond.lays "java/lang/IllegalStateException" "java/lang/Throwable" "depth" "I") ∈ WS := ws_in (List.mem_append_right _ (List.mem_append_right _ (List.mem_append_left _ (List.mem_of_getElem? (i := 133) rfl)))) (by decide +kernel)
theorem w_331 : (Jvm.Cond.methodLink "RaceWatch" (88 : Nat) ({ cls := "RaceWatch", name := "areBad", desc := "()Z" } : Jvm.MethodName)) ∈ WS := ws_in (List.mem_append_right _ (List.mem_append_right _ (List.mem_append_left _ (List.mem_of_getElem? (i := 137) rfl)))) (by decide +kernel)
theorem w_332 : (Jvm.Cond.privateMethod ({ cls := "RaceWatch", name := "areBad", desc := "()Z" } : Jvm.MethodName)) ∈ WS := ws_in (List.mem_append_right _ (List.mem_append_right _ (List.mem_append_left _ (List.mem_of_getElem? (i := 138) rfl)))) (by decide +kernel)
theorem w_333 : (Jvm.Cond.instanceMethod ({ cls := "RaceWatch", name := "areBad", desc := "()Z" } : Jvm.MethodName)) ∈ WS := ws_in (List.mem_append_right _ (List.mem_append_right _ (List.mem_append_left _ (List.mem_of_getElem? (i := 139) rfl)))) (by decide +kernel)
theorem w_334 : (Jvm.Cond.code ({ cls := "RaceWatch", name := "areBad", desc := "()Z" } : Jvm.MethodName) prog_1_method_24_code (2 : Nat) (Option.some FieldType.boolean)) ∈ WS := ws_in (List.mem_append_right _ (List.mem_append_right _ (List.mem_append_left _ (List.mem_of_getElem? (i := 140) rfl)))) (by decide +kernel)
theorem w_335 : (Jvm.Cond.methodLinkNest "RaceWatch" (193 : Nat) ({ cls := "RaceWatch$Program", name := "isBad", desc := "(I)Z" } : Jvm.MethodName) "RaceWatch") ∈ WS := ws_in (List.mem_append_right _ (List.mem_append_right _ (List.mem_append_left _ (List.mem_of_getElem? (i := 141) rfl)))) (by decide +kernel)
theorem w_336 : (Jvm.Cond.privateMethod ({ cls := "RaceWatch$Program", name := "isBad", desc := "(I)Z" } : Jvm.MethodName)) ∈ WS := ws_in (List.mem_append_right _ (List.mem_append_right _ (List.mem_append_left _ (List.mem_of_getElem? (i := 142) rfl)))) (by decide +kernel)
theorem w_337 : (Jvm.Cond.instanceMethod ({ cls := "RaceWatch$Program", name := "isBad", desc := "(I)Z" } : Jvm.MethodName)) ∈ WS := ws_in (List.mem_append_right _ (List.mem_append_right _ (List.mem_append_left _ (List.mem_of_getElem? (i := 143) rfl)))) (by decide +kernel)
theorem w_338 : (Jvm.Cond.code ({ cls := "RaceWatch$Program", name := "isBad", desc := "(I)Z" } : Jvm.MethodName) prog_4_method_5_code (3 : Nat) (Option.some FieldType.boolean)) ∈ WS := ws_in (List.mem_append_right _ (List.mem_append_right _ (List.mem_append_left _ (List.mem_of_getElem? (i := 144) rfl)))) (by decide +kernel)
theorem w_339 : (Jvm.Cond.classLink "RaceWatch" (91 : Nat) "java/lang/IllegalArgumentException") ∈ WS := ws_in (List.mem_append_right _ (List.mem_append_right _ (List.mem_append_left _ (List.mem_of_getElem? (i := 145) rfl)))) (by decide +kernel)
theorem w_340 : (Jvm.Cond.instantiable "java/lang/IllegalArgumentException" (6 : Nat)) ∈ WS := ws_in (List.mem_append_right _ (List.mem_append_right _ (List.mem_append_left _ (List.mem_of_getElem? (i := 146) rfl)))) (by decide +kernel)
theorem w_341 : (Jvm.Cond.castable "java/lang/IllegalArgumentException" "java/lang/IllegalArgumentException") ∈ WS := ws_in (List.mem_append_right _ (List.mem_append_right _ (List.mem_append_left _ (List.mem_of_getElem? (i := 147) rfl)))) (by decide +kernel)
theorem w_342 : (Jvm.Cond.selects "java/lang/IllegalArgumentException" ({ cls := "java/lang/Throwable", name := "fillInStackTrace", desc := "(I)Ljava/lang/Throwable;" } : Jvm.MethodName) ({ cls := "java/lang/Throwable", name := "fillInStackTrace", desc := "(I)Ljava/lang/Throwable;" } : Jvm.MethodName)) ∈ WS := ws_in (List.mem_append_right _ (List.mem_append_right _ (List.mem_append_left _ (List.mem_of_getElem? (i := 148) rfl)))) (by decide +kernel)
theorem w_343 : (Jvm.Cond.lays "java/lang/IllegalArgumentException" "java/lang/Throwable" "cause" "Ljava/lang/Throwable;") ∈ WS := ws_in (List.mem_append_right _ (List.mem_append_right _ (List.mem_append_left _ (List.mem_of_getElem? (i := 149) rfl)))) (by decide +kernel)
theorem w_344 : (Jvm.Cond.lays "java/lang/IllegalArgumentException" "java/lang/Throwable" "stackTrace" "[Ljava/lang/StackTraceElement;") ∈ WS := ws_in (List.mem_append_right _ (List.mem_append_right _ (List.mem_append_left _ (List.mem_of_getElem? (i := 150) rfl)))) (by decide +kernel)
theorem w_345 : (Jvm.Cond.lays "java/lang/IllegalArgumentException" "java/lang/Throwable" "suppressedExceptions" "Ljava/util/List;") ∈ WS := ws_in (List.mem_append_right _ (List.mem_append_right _ (List.mem_append_left _ (List.mem_of_getElem? (i := 151) rfl)))) (by decide +kernel)
theorem w_346 : (Jvm.Cond.lays "java/lang/IllegalArgumentException" "java/lang/Throwable" "detailMessage" "Ljava/lang/String;") ∈ WS := ws_in (List.mem_append_right _ (List.mem_append_right _ (List.mem_append_left _ (List.mem_of_getElem? (i := 152) rfl)))) (by decide +kernel)
theorem w_347 : (Jvm.Cond.lays "java/lang/IllegalArgumentException" "java/lang/Throwable" "backtrace" "Ljava/lang/Object;") ∈ WS := ws_in (List.mem_append_right _ (List.mem_append_right _ (List.mem_append_left _ (List.mem_of_getElem? (i := 153) rfl)))) (by decide +kernel)
theorem w_348 : (Jvm.Cond.methodLink "RaceWatch" (93 : Nat) ({ cls := "java/lang/IllegalArgumentException", name := "<init>", desc := "()V" } : Jvm.MethodName)) ∈ WS := ws_in (List.mem_append_right _ (List.mem_append_right _ (List.mem_append_left _ (List.mem_of_getElem? (i := 154) rfl)))) (by decide +kernel)
theorem w_349 : (Jvm.Cond.instanceMethod ({ cls := "java/lang/IllegalArgumentException", name := "<init>", desc := "()V" } : Jvm.MethodName)) ∈ WS := ws_in (List.mem_append_right _ (List.mem_append_right _ (List.mem_append_left _ (List.mem_of_getElem? (i := 155) rfl)))) (by decide +kernel)
theorem w_350 : (Jvm.Cond.code ({ cls := "java/lang/IllegalArgumentException", name := "<init>", desc := "()V" } : Jvm.MethodName) prog_11_method_1_code (1 : Nat) (Option.none : Option FieldType)) ∈ WS := ws_in (List.mem_append_right _ (List.mem_append_right _ (List.mem_append_left _ (List.mem_of_getElem? (i := 156) rfl)))) (by decide +kernel)
theorem w_351 : (Jvm.Cond.methodLink "java/lang/IllegalArgumentException" (1 : Nat) ({ cls := "java/lang/RuntimeException", name := "<init>", desc := "()V" } : Jvm.MethodName)) ∈ WS := ws_in (List.mem_append_right _ (List.mem_append_right _ (List.mem_append_left _ (List.mem_of_getElem? (i := 157) rfl)))) (by decide +kernel)
theorem w_352 : (Jvm.Cond.lays "java/lang/IllegalArgumentException" "java/lang/Throwable" "depth" "I") ∈ WS := ws_in (List.mem_append_right _ (List.mem_append_right _ (List.mem_append_left _ (List.mem_of_getElem? (i := 158) rfl)))) (by decide +kernel)
theorem w_353 : (Jvm.Cond.methodLink "RaceWatch" (98 : Nat) ({ cls := "RaceWatch", name := "instructions", desc := "()I" } : Jvm.MethodName)) ∈ WS := ws_in (List.mem_append_right _ (List.mem_append_right _ (List.mem_append_left _ (List.mem_of_getElem? (i := 160) rfl)))) (by decide +kernel)
theorem w_354 : (Jvm.Cond.privateMethod ({ cls := "RaceWatch", name := "instructions", desc := "()I" } : Jvm.MethodName)) ∈ WS := ws_in (List.mem_append_right _ (List.mem_append_right _ (List.mem_append_left _ (List.mem_of_getElem? (i := 161) rfl)))) (by decide +kernel)
theorem w_355 : (Jvm.Cond.instanceMethod ({ cls := "RaceWatch", name := "instructions", desc := "()I" } : Jvm.MethodName)) ∈ WS := ws_in (List.mem_append_right _ (List.mem_append_right _ (List.mem_append_left _ (List.mem_of_getElem? (i := 162) rfl)))) (by decide +kernel)
theorem w_356 : (Jvm.Cond.code ({ cls := "RaceWatch", name := "instructions", desc := "()I" } : Jvm.MethodName) prog_1_method_25_code (3 : Nat) (Option.some FieldType.int)) ∈ WS := ws_in (List.mem_append_right _ (List.mem_append_right _ (List.mem_append_left _ (List.mem_of_getElem? (i := 163) rfl)))) (by decide +kernel)
theorem w_357 : (Jvm.Cond.methodLink "RaceWatchLaw" (48 : Nat) ({ cls := "RaceWatchLaw", name := "step", desc := "(LRaceWatch;I[J)I" } : Jvm.MethodName)) ∈ WS := ws_in (List.mem_append_right _ (List.mem_append_right _ (List.mem_append_left _ (List.mem_of_getElem? (i := 164) rfl)))) (by decide +kernel)
theorem w_358 : (Jvm.Cond.static ({ cls := "RaceWatchLaw", name := "step", desc := "(LRaceWatch;I[J)I" } : Jvm.MethodName)) ∈ WS := ws_in (List.mem_append_right _ (List.mem_append_right _ (List.mem_append_left _ (List.mem_of_getElem? (i := 165) rfl)))) (by decide +kernel)
theorem w_359 : (Jvm.Cond.codeWith ({ cls := "RaceWatchLaw", name := "step", desc := "(LRaceWatch;I[J)I" } : Jvm.MethodName) method_4_code (4 : Nat) (Option.some FieldType.int) [((0 : Nat), (9 : Nat), (12 : Nat), (21 : Nat)), ((0 : Nat), (9 : Nat), (15 : Nat), (13 : Nat)), ((0 : Nat), (9 : Nat), (18 : Nat), (23 : Nat))]) ∈ WS := ws_in (List.mem_append_right _ (List.mem_append_right _ (List.mem_append_left _ (List.mem_of_getElem? (i := 166) rfl)))) (by decide +kernel)
theorem w_360 : (Jvm.Cond.classLink "RaceWatchLaw" (21 : Nat) "java/lang/IndexOutOfBoundsException") ∈ WS := ws_in (List.mem_append_right _ (List.mem_append_right _ (List.mem_append_left _ (List.mem_of_getElem? (i := 167) rfl)))) (by decide +kernel)
theorem w_361 : (Jvm.Cond.classLink "RaceWatchLaw" (23 : Nat) "java/lang/UnsupportedOperationException") ∈ WS := ws_in (List.mem_append_right _ (List.mem_append_right _ (List.mem_append_left _ (List.mem_of_getElem? (i := 168) rfl)))) (by decide +kernel)
theorem w_362 : (Jvm.Cond.methodLink "RaceWatchLaw" (17 : Nat) ({ cls := "RaceWatch", name := "step", desc := "(I)I" } : Jvm.MethodName)) ∈ WS := ws_in (List.mem_append_right _ (List.mem_append_right _ (List.mem_append_left _ (List.mem_of_getElem? (i := 169) rfl)))) (by decide +kernel)
theorem w_363 : (Jvm.Cond.instanceMethod ({ cls := "RaceWatch", name := "step", desc := "(I)I" } : Jvm.MethodName)) ∈ WS := ws_in (List.mem_append_right _ (List.mem_append_right _ (List.mem_append_left _ (List.mem_of_getElem? (i := 170) rfl)))) (by decide +kernel)
theorem w_364 : (Jvm.Cond.selects "RaceWatch" ({ cls := "RaceWatch", name := "step", desc := "(I)I" } : Jvm.MethodName) ({ cls := "RaceWatch", name := "step", desc := "(I)I" } : Jvm.MethodName)) ∈ WS := ws_in (List.mem_append_right _ (List.mem_append_right _ (List.mem_append_left _ (List.mem_of_getElem? (i := 171) rfl)))) (by decide +kernel)
theorem w_365 : (Jvm.Cond.code ({ cls := "RaceWatch", name := "step", desc := "(I)I" } : Jvm.MethodName) prog_1_method_5_code (4 : Nat) (Option.some FieldType.int)) ∈ WS := ws_in (List.mem_append_right _ (List.mem_append_right _ (List.mem_append_left _ (List.mem_of_getElem? (i := 172) rfl)))) (by decide +kernel)
theorem w_366 : (Jvm.Cond.classLink "RaceWatch" (102 : Nat) "java/lang/IndexOutOfBoundsException") ∈ WS := ws_in (List.mem_append_right _ (List.mem_append_right _ (List.mem_append_left _ (List.mem_of_getElem? (i := 173) rfl)))) (by decide +kernel)
theorem w_367 : (Jvm.Cond.instantiable "java/lang/IndexOutOfBoundsException" (6 : Nat)) ∈ WS := ws_in (List.mem_append_right _ (List.mem_append_right _ (List.mem_append_left _ (List.mem_of_getElem? (i := 174) rfl)))) (by decide +kernel)
theorem w_368 : (Jvm.Cond.castable "java/lang/IndexOutOfBoundsException" "java/lang/IndexOutOfBoundsException") ∈ WS := ws_in (List.mem_append_right _ (List.mem_append_right _ (List.mem_append_left _ (List.mem_of_getElem? (i := 175) rfl)))) (by decide +kernel)
theorem w_369 : (Jvm.Cond.selects "java/lang/IndexOutOfBoundsException" ({ cls := "java/lang/Throwable", name := "fillInStackTrace", desc := "(I)Ljava/lang/Throwable;" } : Jvm.MethodName) ({ cls := "java/lang/Throwable", name := "fillInStackTrace", desc := "(I)Ljava/lang/Throwable;" } : Jvm.MethodName)) ∈ WS := ws_in (List.mem_append_right _ (List.mem_append_right _ (List.mem_append_left _ (List.mem_of_getElem? (i := 176) rfl)))) (by decide +kernel)
theorem w_370 : (Jvm.Cond.lays "java/lang/IndexOutOfBoundsException" "java/lang/Throwable" "cause" "Ljava/lang/Throwable;") ∈ WS := ws_in (List.mem_append_right _ (List.mem_append_right _ (List.mem_append_left _ (List.mem_of_getElem? (i := 177) rfl)))) (by decide +kernel)
theorem w_371 : (Jvm.Cond.lays "java/lang/IndexOutOfBoundsException" "java/lang/Throwable" "stackTrace" "[Ljava/lang/StackTraceElement;") ∈ WS := ws_in (List.mem_append_right _ (List.mem_append_right _ (List.mem_append_left _ (List.mem_of_getElem? (i := 178) rfl)))) (by decide +kernel)
theorem w_372 : (Jvm.Cond.lays "java/lang/IndexOutOfBoundsException" "java/lang/Throwable" "suppressedExceptions" "Ljava/util/List;") ∈ WS := ws_in (List.mem_append_right _ (List.mem_append_right _ (List.mem_append_left _ (List.mem_of_getElem? (i := 179) rfl)))) (by decide +kernel)
theorem w_373 : (Jvm.Cond.lays "java/lang/IndexOutOfBoundsException" "java/lang/Throwable" "detailMessage" "Ljava/lang/String;") ∈ WS := ws_in (List.mem_append_right _ (List.mem_append_right _ (List.mem_append_left _ (List.mem_of_getElem? (i := 180) rfl)))) (by decide +kernel)
theorem w_374 : (Jvm.Cond.lays "java/lang/IndexOutOfBoundsException" "java/lang/Throwable" "backtrace" "Ljava/lang/Object;") ∈ WS := ws_in (List.mem_append_right _ (List.mem_append_right _ (List.mem_append_left _ (List.mem_of_getElem? (i := 181) rfl)))) (by decide +kernel)
theorem w_375 : (Jvm.Cond.methodLink "RaceWatch" (104 : Nat) ({ cls := "java/lang/IndexOutOfBoundsException", name := "<init>", desc := "()V" } : Jvm.MethodName)) ∈ WS := ws_in (List.mem_append_right _ (List.mem_append_right _ (List.mem_append_left _ (List.mem_of_getElem? (i := 182) rfl)))) (by decide +kernel)
theorem w_376 : (Jvm.Cond.instanceMethod ({ cls := "java/lang/IndexOutOfBoundsException", name := "<init>", desc := "()V" } : Jvm.MethodName)) ∈ WS := ws_in (List.mem_append_right _ (List.mem_append_right _ (List.mem_append_left _ (List.mem_of_getElem? (i := 183) rfl)))) (by decide +kernel)
theorem w_377 : (Jvm.Cond.code ({ cls := "java/lang/IndexOutOfBoundsException", name := "<init>", desc := "()V" } : Jvm.MethodName) prog_13_method_1_code (1 : Nat) (Option.none : Option FieldType)) ∈ WS := ws_in (List.mem_append_right _ (List.mem_append_right _ (List.mem_append_left _ (List.mem_of_getElem? (i := 184) rfl)))) (by decide +kernel)
theorem w_378 : (Jvm.Cond.methodLink "java/lang/IndexOutOfBoundsException" (1 : Nat) ({ cls := "java/lang/RuntimeException", name := "<init>", desc := "()V" } : Jvm.MethodName)) ∈ WS := ws_in (List.mem_append_right _ (List.mem_append_right _ (List.mem_append_left _ (List.mem_of_getElem? (i := 185) rfl)))) (by decide +kernel)
theorem w_379 : (Jvm.Cond.lays "java/lang/IndexOutOfBoundsException" "java/lang/Throwable" "depth" "I") ∈ WS := ws_in (List.mem_append_right _ (List.mem_append_right _ (List.mem_append_left _ (List.mem_of_getElem? (i := 186) rfl)))) (by decide +kernel)
theorem w_380 : (Jvm.Cond.methodLink "RaceWatch" (115 : Nat) ({ cls := "RaceWatch", name := "isEvent", desc := "(I)Z" } : Jvm.MethodName)) ∈ WS := ws_in (List.mem_append_right _ (List.mem_append_right _ (List.mem_append_left _ (List.mem_of_getElem? (i := 188) rfl)))) (by decide +kernel)
theorem w_381 : (Jvm.Cond.static ({ cls := "RaceWatch", name := "isEvent", desc := "(I)Z" } : Jvm.MethodName)) ∈ WS := ws_in (List.mem_append_right _ (List.mem_append_right _ (List.mem_append_left _ (List.mem_of_getElem? (i := 189) rfl)))) (by decide +kernel)
theorem w_382 : (Jvm.Cond.code ({ cls := "RaceWatch", name := "isEvent", desc := "(I)Z" } : Jvm.MethodName) prog_1_method_19_code (1 : Nat) (Option.some FieldType.boolean)) ∈ WS := ws_in (List.mem_append_right _ (List.mem_append_right _ (List.mem_append_left _ (List.mem_of_getElem? (i := 190) rfl)))) (by decide +kernel)
theorem w_383 : (Jvm.Cond.methodLink "RaceWatch" (118 : Nat) ({ cls := "RaceWatch", name := "doQuietly", desc := "(III)V" } : Jvm.MethodName)) ∈ WS := ws_in (List.mem_append_right _ (List.mem_append_right _ (List.mem_append_left _ (List.mem_of_getElem? (i := 191) rfl)))) (by decide +kernel)
theorem w_384 : (Jvm.Cond.privateMethod ({ cls := "RaceWatch", name := "doQuietly", desc := "(III)V" } : Jvm.MethodName)) ∈ WS := ws_in (List.mem_append_right _ (List.mem_append_right _ (List.mem_append_left _ (List.mem_of_getElem? (i := 192) rfl)))) (by decide +kernel)
theorem w_385 : (Jvm.Cond.instanceMethod ({ cls := "RaceWatch", name := "doQuietly", desc := "(III)V" } : Jvm.MethodName)) ∈ WS := ws_in (List.mem_append_right _ (List.mem_append_right _ (List.mem_append_left _ (List.mem_of_getElem? (i := 193) rfl)))) (by decide +kernel)
theorem w_386 : (Jvm.Cond.code ({ cls := "RaceWatch", name := "doQuietly", desc := "(III)V" } : Jvm.MethodName) prog_1_method_28_code (6 : Nat) (Option.none : Option FieldType)) ∈ WS := ws_in (List.mem_append_right _ (List.mem_append_right _ (List.mem_append_left _ (List.mem_of_getElem? (i := 194) rfl)))) (by decide +kernel)
theorem w_387 : (Jvm.Cond.methodLinkNest "RaceWatch" (205 : Nat) ({ cls := "RaceWatch$Worker", name := "goTo", desc := "(II)V" } : Jvm.MethodName) "RaceWatch") ∈ WS := ws_in (List.mem_append_right _ (List.mem_append_right _ (List.mem_append_left _ (List.mem_of_getElem? (i := 195) rfl)))) (by decide +kernel)
theorem w_388 : (Jvm.Cond.privateMethod ({ cls := "RaceWatch$Worker", name := "goTo", desc := "(II)V" } : Jvm.MethodName)) ∈ WS := ws_in (List.mem_append_right _ (List.mem_append_right _ (List.mem_append_left _ (List.mem_of_getElem? (i := 196) rfl)))) (by decide +kernel)
theorem w_389 : (Jvm.Cond.instanceMethod ({ cls := "RaceWatch$Worker", name := "goTo", desc := "(II)V" } : Jvm.MethodName)) ∈ WS := ws_in (List.mem_append_right _ (List.mem_append_right _ (List.mem_append_left _ (List.mem_of_getElem? (i := 197) rfl)))) (by decide +kernel)
theorem w_390 : (Jvm.Cond.code ({ cls := "RaceWatch$Worker", name := "goTo", desc := "(II)V" } : Jvm.MethodName) prog_7_method_3_code (3 : Nat) (Option.none : Option FieldType)) ∈ WS := ws_in (List.mem_append_right _ (List.mem_append_right _ (List.mem_append_left _ (List.mem_of_getElem? (i := 198) rfl)))) (by decide +kernel)
theorem w_391 : (Jvm.Cond.methodLink "RaceWatch" (122 : Nat) ({ cls := "RaceWatch", name := "isInfeasible", desc := "(III)Z" } : Jvm.MethodName)) ∈ WS := ws_in (List.mem_append_right _ (List.mem_append_right _ (List.mem_append_left _ (List.mem_of_getElem? (i := 199) rfl)))) (by decide +kernel)
theorem w_392 : (Jvm.Cond.privateMethod ({ cls := "RaceWatch", name := "isInfeasible", desc := "(III)Z" } : Jvm.MethodName)) ∈ WS := ws_in (List.mem_append_right _ (List.mem_append_right _ (List.mem_append_left _ (List.mem_of_getElem? (i := 200) rfl)))) (by decide +kernel)
theorem w_393 : (Jvm.Cond.instanceMethod ({ cls := "RaceWatch", name := "isInfeasible", desc := "(III)Z" } : Jvm.MethodName)) ∈ WS := ws_in (List.mem_append_right _ (List.mem_append_right _ (List.mem_append_left _ (List.mem_of_getElem? (i := 201) rfl)))) (by decide +kernel)
theorem w_394 : (Jvm.Cond.code ({ cls := "RaceWatch", name := "isInfeasible", desc := "(III)Z" } : Jvm.MethodName) prog_1_method_26_code (4 : Nat) (Option.some FieldType.boolean)) ∈ WS := ws_in (List.mem_append_right _ (List.mem_append_right _ (List.mem_append_left _ (List.mem_of_getElem? (i := 202) rfl)))) (by decide +kernel)
theorem w_395 : (Jvm.Cond.methodLinkNest "RaceWatch" (199 : Nat) ({ cls := "RaceWatch$Lock", name := "isHeldBy", desc := "(I)Z" } : Jvm.MethodName) "RaceWatch") ∈ WS := ws_in (List.mem_append_right _ (List.mem_append_right _ (List.mem_append_left _ (List.mem_of_getElem? (i := 203) rfl)))) (by decide +kernel)
theorem w_396 : (Jvm.Cond.privateMethod ({ cls := "RaceWatch$Lock", name := "isHeldBy", desc := "(I)Z" } : Jvm.MethodName)) ∈ WS := ws_in (List.mem_append_right _ (List.mem_append_right _ (List.mem_append_left _ (List.mem_of_getElem? (i := 204) rfl)))) (by decide +kernel)
theorem w_397 : (Jvm.Cond.instanceMethod ({ cls := "RaceWatch$Lock", name := "isHeldBy", desc := "(I)Z" } : Jvm.MethodName)) ∈ WS := ws_in (List.mem_append_right _ (List.mem_append_right _ (List.mem_append_left _ (List.mem_of_getElem? (i := 205) rfl)))) (by decide +kernel)
theorem w_398 : (Jvm.Cond.code ({ cls := "RaceWatch$Lock", name := "isHeldBy", desc := "(I)Z" } : Jvm.MethodName) prog_3_method_2_code (2 : Nat) (Option.some FieldType.boolean)) ∈ WS := ws_in (List.mem_append_right _ (List.mem_append_right _ (List.mem_append_left _ (List.mem_of_getElem? (i := 206) rfl)))) (by decide +kernel)
theorem w_399 : (Jvm.Cond.classLink "RaceWatch" (126 : Nat) "java/lang/UnsupportedOperationException") ∈ WS := ws_in (List.mem_append_right _ (List.mem_append_right _ (List.mem_append_left _ (List.mem_of_getElem? (i := 207) rfl)))) (by decide +kernel)
theorem w_400 : (Jvm.Cond.instantiable "java/lang/UnsupportedOperationException" (6 : Nat)) ∈ WS := ws_in (List.mem_append_right _ (List.mem_append_right _ (List.mem_append_left _ (List.mem_of_getElem? (i := 208) rfl)))) (by decide +kernel)
theorem w_401 : (Jvm.Cond.castable "java/lang/UnsupportedOperationException" "java/lang/UnsupportedOperationException") ∈ WS := ws_in (List.mem_append_right _ (List.mem_append_right _ (List.mem_append_left _ (List.mem_of_getElem? (i := 209) rfl)))) (by decide +kernel)
theorem w_402 : (Jvm.Cond.selects "java/lang/UnsupportedOperationException" ({ cls := "java/lang/Throwable", name := "fillInStackTrace", desc := "(I)Ljava/lang/Throwable;" } : Jvm.MethodName) ({ cls := "java/lang/Throwable", name := "fillInStackTrace", desc := "(I)Ljava/lang/Throwable;" } : Jvm.MethodName)) ∈ WS := ws_in (List.mem_append_right _ (List.mem_append_right _ (List.mem_append_left _ (List.mem_of_getElem? (i := 210) rfl)))) (by decide +kernel)
theorem w_403 : (Jvm.Cond.lays "java/lang/UnsupportedOperationException" "java/lang/Throwable" "cause" "Ljava/lang/Throwable;") ∈ WS := ws_in (List.mem_append_right _ (List.mem_append_right _ (List.mem_append_left _ (List.mem_of_getElem? (i := 211) rfl)))) (by decide +kernel)
theorem w_404 : (Jvm.Cond.lays "java/lang/UnsupportedOperationException" "java/lang/Throwable" "stackTrace" "[Ljava/lang/StackTraceElement;") ∈ WS := ws_in (List.mem_append_right _ (List.mem_append_right _ (List.mem_append_left _ (List.mem_of_getElem? (i := 212) rfl)))) (by decide +kernel)
theorem w_405 : (Jvm.Cond.lays "java/lang/UnsupportedOperationException" "java/lang/Throwable" "suppressedExceptions" "Ljava/util/List;") ∈ WS := ws_in (List.mem_append_right _ (List.mem_append_right _ (List.mem_append_left _ (List.mem_of_getElem? (i := 213) rfl)))) (by decide +kernel)
theorem w_406 : (Jvm.Cond.lays "java/lang/UnsupportedOperationException" "java/lang/Throwable" "detailMessage" "Ljava/lang/String;") ∈ WS := ws_in (List.mem_append_right _ (List.mem_append_right _ (List.mem_append_left _ (List.mem_of_getElem? (i := 214) rfl)))) (by decide +kernel)
theorem w_407 : (Jvm.Cond.lays "java/lang/UnsupportedOperationException" "java/lang/Throwable" "backtrace" "Ljava/lang/Object;") ∈ WS := ws_in (List.mem_append_right _ (List.mem_append_right _ (List.mem_append_left _ (List.mem_of_getElem? (i := 215) rfl)))) (by decide +kernel)
theorem w_408 : (Jvm.Cond.methodLink "RaceWatch" (128 : Nat) ({ cls := "java/lang/UnsupportedOperationException", name := "<init>", desc := "()V" } : Jvm.MethodName)) ∈ WS := ws_in (List.mem_append_right _ (List.mem_append_right _ (List.mem_append_left _ (List.mem_of_getElem? (i := 216) rfl)))) (by decide +kernel)
theorem w_409 : (Jvm.Cond.instanceMethod ({ cls := "java/lang/UnsupportedOperationException", name := "<init>", desc := "()V" } : Jvm.MethodName)) ∈ WS := ws_in (List.mem_append_right _ (List.mem_append_right _ (List.mem_append_left _ (List.mem_of_getElem? (i := 217) rfl)))) (by decide +kernel)
theorem w_410 : (Jvm.Cond.code ({ cls := "java/lang/UnsupportedOperationException", name := "<init>", desc := "()V" } : Jvm.MethodName) prog_19_method_1_code (1 : Nat) (Option.none : Option FieldType)) ∈ WS := ws_in (List.mem_append_right _ (List.mem_append_right _ (List.mem_append_left _ (List.mem_of_getElem? (i := 218) rfl)))) (by decide +kernel)
theorem w_411 : (Jvm.Cond.methodLink "java/lang/UnsupportedOperationException" (1 : Nat) ({ cls := "java/lang/RuntimeException", name := "<init>", desc := "()V" } : Jvm.MethodName)) ∈ WS := ws_in (List.mem_append_right _ (List.mem_append_right _ (List.mem_append_left _ (List.mem_of_getElem? (i := 219) rfl)))) (by decide +kernel)
theorem w_412 : (Jvm.Cond.lays "java/lang/UnsupportedOperationException" "java/lang/Throwable" "depth" "I") ∈ WS := ws_in (List.mem_append_right _ (List.mem_append_right _ (List.mem_append_left _ (List.mem_of_getElem? (i := 220) rfl)))) (by decide +kernel)
theorem w_413 : (Jvm.Cond.methodLinkNest "RaceWatch" (129 : Nat) ({ cls := "RaceWatch$Trace", name := "isFull", desc := "()Z" } : Jvm.MethodName) "RaceWatch") ∈ WS := ws_in (List.mem_append_right _ (List.mem_append_right _ (List.mem_append_left _ (List.mem_of_getElem? (i := 222) rfl)))) (by decide +kernel)
theorem w_414 : (Jvm.Cond.privateMethod ({ cls := "RaceWatch$Trace", name := "isFull", desc := "()Z" } : Jvm.MethodName)) ∈ WS := ws_in (List.mem_append_right _ (List.mem_append_right _ (List.mem_append_left _ (List.mem_of_getElem? (i := 223) rfl)))) (by decide +kernel)
theorem w_415 : (Jvm.Cond.instanceMethod ({ cls := "RaceWatch$Trace", name := "isFull", desc := "()Z" } : Jvm.MethodName)) ∈ WS := ws_in (List.mem_append_right _ (List.mem_append_right _ (List.mem_append_left _ (List.mem_of_getElem? (i := 224) rfl)))) (by decide +kernel)
theorem w_416 : (Jvm.Cond.code ({ cls := "RaceWatch$Trace", name := "isFull", desc := "()Z" } : Jvm.MethodName) prog_6_method_2_code (1 : Nat) (Option.some FieldType.boolean)) ∈ WS := ws_in (List.mem_append_right _ (List.mem_append_right _ (List.mem_append_left _ (List.mem_of_getElem? (i := 225) rfl)))) (by decide +kernel)
theorem w_417 : (Jvm.Cond.methodLink "RaceWatch" (130 : Nat) ({ cls := "RaceWatch", name := "mustWait", desc := "(III)Z" } : Jvm.MethodName)) ∈ WS := ws_in (List.mem_append_right _ (List.mem_append_right _ (List.mem_append_left _ (List.mem_of_getElem? (i := 226) rfl)))) (by decide +kernel)
theorem w_418 : (Jvm.Cond.privateMethod ({ cls := "RaceWatch", name := "mustWait", desc := "(III)Z" } : Jvm.MethodName)) ∈ WS := ws_in (List.mem_append_right _ (List.mem_append_right _ (List.mem_append_left _ (List.mem_of_getElem? (i := 227) rfl)))) (by decide +kernel)
theorem w_419 : (Jvm.Cond.instanceMethod ({ cls := "RaceWatch", name := "mustWait", desc := "(III)Z" } : Jvm.MethodName)) ∈ WS := ws_in (List.mem_append_right _ (List.mem_append_right _ (List.mem_append_left _ (List.mem_of_getElem? (i := 228) rfl)))) (by decide +kernel)
theorem w_420 : (Jvm.Cond.code ({ cls := "RaceWatch", name := "mustWait", desc := "(III)Z" } : Jvm.MethodName) prog_1_method_27_code (4 : Nat) (Option.some FieldType.boolean)) ∈ WS := ws_in (List.mem_append_right _ (List.mem_append_right _ (List.mem_append_left _ (List.mem_of_getElem? (i := 229) rfl)))) (by decide +kernel)
theorem w_421 : (Jvm.Cond.methodLink "RaceWatch" (133 : Nat) ({ cls := "RaceWatch", name := "doEvent", desc := "(III)V" } : Jvm.MethodName)) ∈ WS := ws_in (List.mem_append_right _ (List.mem_append_right _ (List.mem_append_left _ (List.mem_of_getElem? (i := 230) rfl)))) (by decide +kernel)
theorem w_422 : (Jvm.Cond.privateMethod ({ cls := "RaceWatch", name := "doEvent", desc := "(III)V" } : Jvm.MethodName)) ∈ WS := ws_in (List.mem_append_right _ (List.mem_append_right _ (List.mem_append_left _ (List.mem_of_getElem? (i := 231) rfl)))) (by decide +kernel)
theorem w_423 : (Jvm.Cond.instanceMethod ({ cls := "RaceWatch", name := "doEvent", desc := "(III)V" } : Jvm.MethodName)) ∈ WS := ws_in (List.mem_append_right _ (List.mem_append_right _ (List.mem_append_left _ (List.mem_of_getElem? (i := 232) rfl)))) (by decide +kernel)
theorem w_424 : (Jvm.Cond.code ({ cls := "RaceWatch", name := "doEvent", desc := "(III)V" } : Jvm.MethodName) prog_1_method_29_code (7 : Nat) (Option.none : Option FieldType)) ∈ WS := ws_in (List.mem_append_right _ (List.mem_append_right _ (List.mem_append_left _ (List.mem_of_getElem? (i := 233) rfl)))) (by decide +kernel)
theorem w_425 : (Jvm.Cond.methodLink "RaceWatch" (209 : Nat) ({ cls := "RaceWatch", name := "isArrayAccess", desc := "(I)Z" } : Jvm.MethodName)) ∈ WS := ws_in (List.mem_append_right _ (List.mem_append_right _ (List.mem_append_left _ (List.mem_of_getElem? (i := 234) rfl)))) (by decide +kernel)
theorem w_426 : (Jvm.Cond.static ({ cls := "RaceWatch", name := "isArrayAccess", desc := "(I)Z" } : Jvm.MethodName)) ∈ WS := ws_in (List.mem_append_right _ (List.mem_append_right _ (List.mem_append_left _ (List.mem_of_getElem? (i := 235) rfl)))) (by decide +kernel)
theorem w_427 : (Jvm.Cond.code ({ cls := "RaceWatch", name := "isArrayAccess", desc := "(I)Z" } : Jvm.MethodName) prog_1_method_20_code (1 : Nat) (Option.some FieldType.boolean)) ∈ WS := ws_in (List.mem_append_right _ (List.mem_append_right _ (List.mem_append_left _ (List.mem_of_getElem? (i := 236) rfl)))) (by decide +kernel)
theorem w_428 : (Jvm.Cond.constantLong "RaceWatch" (212 : Nat) (3 : Int64)) ∈ WS := ws_in (List.mem_append_right _ (List.mem_append_right _ (List.mem_append_left _ (List.mem_of_getElem? (i := 237) rfl)))) (by decide +kernel)
theorem w_429 : (Jvm.Cond.methodLinkNest "RaceWatch" (218 : Nat) ({ cls := "RaceWatch$Clock", name := "tick", desc := "(I)V" } : Jvm.MethodName) "RaceWatch") ∈ WS := ws_in (List.mem_append_right _ (List.mem_append_right _ (List.mem_append_left _ (List.mem_of_getElem? (i := 238) rfl)))) (by decide +kernel)
theorem w_430 : (Jvm.Cond.privateMethod ({ cls := "RaceWatch$Clock", name := "tick", desc := "(I)V" } : Jvm.MethodName)) ∈ WS := ws_in (List.mem_append_right _ (List.mem_append_right _ (List.mem_append_left _ (List.mem_of_getElem? (i := 239) rfl)))) (by decide +kernel)
theorem w_431 : (Jvm.Cond.instanceMethod ({ cls := "RaceWatch$Clock", name := "tick", desc := "(I)V" } : Jvm.MethodName)) ∈ WS := ws_in (List.mem_append_right _ (List.mem_append_right _ (List.mem_append_right _ (List.mem_append_left _ (List.mem_of_getElem? (i := 0) rfl))))) (by decide +kernel)
theorem w_432 : (Jvm.Cond.code ({ cls := "RaceWatch$Clock", name := "tick", desc := "(I)V" } : Jvm.MethodName) prog_2_method_2_code (2 : Nat) (Option.none : Option FieldType)) ∈ WS := ws_in (List.mem_append_right _ (List.mem_append_right _ (List.mem_append_right _ (List.mem_append_left _ (List.mem_of_getElem? (i := 1) rfl))))) (by decide +kernel)
theorem w_433 : (Jvm.Cond.methodLink "RaceWatch" (222 : Nat) ({ cls := "RaceWatch", name := "synchronise", desc := "(III)V" } : Jvm.MethodName)) ∈ WS := ws_in (List.mem_append_right _ (List.mem_append_right _ (List.mem_append_right _ (List.mem_append_left _ (List.mem_of_getElem? (i := 2) rfl))))) (by decide +kernel)
theorem w_434 : (Jvm.Cond.privateMethod ({ cls := "RaceWatch", name := "synchronise", desc := "(III)V" } : Jvm.MethodName)) ∈ WS := ws_in (List.mem_append_right _ (List.mem_append_right _ (List.mem_append_right _ (List.mem_append_left _ (List.mem_of_getElem? (i := 3) rfl))))) (by decide +kernel)
theorem w_435 : (Jvm.Cond.instanceMethod ({ cls := "RaceWatch", name := "synchronise", desc := "(III)V" } : Jvm.MethodName)) ∈ WS := ws_in (List.mem_append_right _ (List.mem_append_right _ (List.mem_append_right _ (List.mem_append_left _ (List.mem_of_getElem? (i := 4) rfl))))) (by decide +kernel)
theorem w_436 : (Jvm.Cond.code ({ cls := "RaceWatch", name := "synchronise", desc := "(III)V" } : Jvm.MethodName) prog_1_method_30_code (5 : Nat) (Option.none : Option FieldType)) ∈ WS := ws_in (List.mem_append_right _ (List.mem_append_right _ (List.mem_append_right _ (List.mem_append_left _ (List.mem_of_getElem? (i := 5) rfl))))) (by decide +kernel)
theorem w_437 : (Jvm.Cond.methodLinkNest "RaceWatch" (241 : Nat) ({ cls := "RaceWatch$Lock", name := "take", desc := "(ILRaceWatch$Clock;)V" } : Jvm.MethodName) "RaceWatch") ∈ WS := ws_in (List.mem_append_right _ (List.mem_append_right _ (List.mem_append_right _ (List.mem_append_left _ (List.mem_of_getElem? (i := 6) rfl))))) (by decide +kernel)
theorem w_438 : (Jvm.Cond.privateMethod ({ cls := "RaceWatch$Lock", name := "take", desc := "(ILRaceWatch$Clock;)V" } : Jvm.MethodName)) ∈ WS := ws_in (List.mem_append_right _ (List.mem_append_right _ (List.mem_append_right _ (List.mem_append_left _ (List.mem_of_getElem? (i := 7) rfl))))) (by decide +kernel)
theorem w_439 : (Jvm.Cond.instanceMethod ({ cls := "RaceWatch$Lock", name := "take", desc := "(ILRaceWatch$Clock;)V" } : Jvm.MethodName)) ∈ WS := ws_in (List.mem_append_right _ (List.mem_append_right _ (List.mem_append_right _ (List.mem_append_left _ (List.mem_of_getElem? (i := 8) rfl))))) (by decide +kernel)
theorem w_440 : (Jvm.Cond.code ({ cls := "RaceWatch$Lock", name := "take", desc := "(ILRaceWatch$Clock;)V" } : Jvm.MethodName) prog_3_method_3_code (3 : Nat) (Option.none : Option FieldType)) ∈ WS := ws_in (List.mem_append_right _ (List.mem_append_right _ (List.mem_append_right _ (List.mem_append_left _ (List.mem_of_getElem? (i := 9) rfl))))) (by decide +kernel)
theorem w_441 : (Jvm.Cond.methodLinkNest "RaceWatch$Lock" (25 : Nat) ({ cls := "RaceWatch$Clock", name := "learn", desc := "(LRaceWatch$Clock;)V" } : Jvm.MethodName) "RaceWatch") ∈ WS := ws_in (List.mem_append_right _ (List.mem_append_right _ (List.mem_append_right _ (List.mem_append_left _ (List.mem_of_getElem? (i := 10) rfl))))) (by decide +kernel)
theorem w_442 : (Jvm.Cond.privateMethod ({ cls := "RaceWatch$Clock", name := "learn", desc := "(LRaceWatch$Clock;)V" } : Jvm.MethodName)) ∈ WS := ws_in (List.mem_append_right _ (List.mem_append_right _ (List.mem_append_right _ (List.mem_append_left _ (List.mem_of_getElem? (i := 11) rfl))))) (by decide +kernel)
theorem w_443 : (Jvm.Cond.instanceMethod ({ cls := "RaceWatch$Clock", name := "learn", desc := "(LRaceWatch$Clock;)V" } : Jvm.MethodName)) ∈ WS := ws_in (List.mem_append_right _ (List.mem_append_right _ (List.mem_append_right _ (List.mem_append_left _ (List.mem_of_getElem? (i := 12) rfl))))) (by decide +kernel)
theorem w_444 : (Jvm.Cond.code ({ cls := "RaceWatch$Clock", name := "learn", desc := "(LRaceWatch$Clock;)V" } : Jvm.MethodName) prog_2_method_3_code (3 : Nat) (Option.none : Option FieldType)) ∈ WS := ws_in (List.mem_append_right _ (List.mem_append_right _ (List.mem_append_right _ (List.mem_append_left _ (List.mem_of_getElem? (i := 13) rfl))))) (by decide +kernel)
theorem w_445 : (Jvm.Cond.methodLink "RaceWatch$Clock" (15 : Nat) ({ cls := "java/lang/Math", name := "max", desc := "(II)I" } : Jvm.MethodName)) ∈ WS := ws_in (List.mem_append_right _ (List.mem_append_right _ (List.mem_append_right _ (List.mem_append_left _ (List.mem_of_getElem? (i := 14) rfl))))) (by decide +kernel)
theorem w_446 : (Jvm.Cond.static ({ cls := "java/lang/Math", name := "max", desc := "(II)I" } : Jvm.MethodName)) ∈ WS := ws_in (List.mem_append_right _ (List.mem_append_right _ (List.mem_append_right _ (List.mem_append_left _ (List.mem_of_getElem? (i := 15) rfl))))) (by decide +kernel)
theorem w_447 : (Jvm.Cond.code ({ cls := "java/lang/Math", name := "max", desc := "(II)I" } : Jvm.MethodName) prog_15_method_65_code (2 : Nat) (Option.some FieldType.int)) ∈ WS := ws_in (List.mem_append_right _ (List.mem_append_right _ (List.mem_append_right _ (List.mem_append_left _ (List.mem_of_getElem? (i := 16) rfl))))) (by decide +kernel)
theorem w_448 : (Jvm.Cond.methodLinkNest "RaceWatch" (245 : Nat) ({ cls := "RaceWatch$Lock", name := "letGo", desc := "(LRaceWatch$Clock;)V" } : Jvm.MethodName) "RaceWatch") ∈ WS := ws_in (List.mem_append_right _ (List.mem_append_right _ (List.mem_append_right _ (List.mem_append_left _ (List.mem_of_getElem? (i := 17) rfl))))) (by decide +kernel)
theorem w_449 : (Jvm.Cond.privateMethod ({ cls := "RaceWatch$Lock", name := "letGo", desc := "(LRaceWatch$Clock;)V" } : Jvm.MethodName)) ∈ WS := ws_in (List.mem_append_right _ (List.mem_append_right _ (List.mem_append_right _ (List.mem_append_left _ (List.mem_of_getElem? (i := 18) rfl))))) (by decide +kernel)
theorem w_450 : (Jvm.Cond.instanceMethod ({ cls := "RaceWatch$Lock", name := "letGo", desc := "(LRaceWatch$Clock;)V" } : Jvm.MethodName)) ∈ WS := ws_in (List.mem_append_right _ (List.mem_append_right _ (List.mem_append_right _ (List.mem_append_left _ (List.mem_of_getElem? (i := 19) rfl))))) (by decide +kernel)
theorem w_451 : (Jvm.Cond.code ({ cls := "RaceWatch$Lock", name := "letGo", desc := "(LRaceWatch$Clock;)V" } : Jvm.MethodName) prog_3_method_4_code (2 : Nat) (Option.none : Option FieldType)) ∈ WS := ws_in (List.mem_append_right _ (List.mem_append_right _ (List.mem_append_right _ (List.mem_append_left _ (List.mem_of_getElem? (i := 20) rfl))))) (by decide +kernel)
theorem w_452 : (Jvm.Cond.methodLinkNest "RaceWatch" (249 : Nat) ({ cls := "RaceWatch$Clock", name := "learn", desc := "(LRaceWatch$Clock;)V" } : Jvm.MethodName) "RaceWatch") ∈ WS := ws_in (List.mem_append_right _ (List.mem_append_right _ (List.mem_append_right _ (List.mem_append_left _ (List.mem_of_getElem? (i := 21) rfl))))) (by decide +kernel)
theorem w_453 : (Jvm.Cond.methodLinkNest "RaceWatch" (252 : Nat) ({ cls := "RaceWatch$Worker", name := "begin", desc := "(LRaceWatch$Clock;I)V" } : Jvm.MethodName) "RaceWatch") ∈ WS := ws_in (List.mem_append_right _ (List.mem_append_right _ (List.mem_append_right _ (List.mem_append_left _ (List.mem_of_getElem? (i := 22) rfl))))) (by decide +kernel)
theorem w_454 : (Jvm.Cond.privateMethod ({ cls := "RaceWatch$Worker", name := "begin", desc := "(LRaceWatch$Clock;I)V" } : Jvm.MethodName)) ∈ WS := ws_in (List.mem_append_right _ (List.mem_append_right _ (List.mem_append_right _ (List.mem_append_left _ (List.mem_of_getElem? (i := 23) rfl))))) (by decide +kernel)
theorem w_455 : (Jvm.Cond.instanceMethod ({ cls := "RaceWatch$Worker", name := "begin", desc := "(LRaceWatch$Clock;I)V" } : Jvm.MethodName)) ∈ WS := ws_in (List.mem_append_right _ (List.mem_append_right _ (List.mem_append_right _ (List.mem_append_left _ (List.mem_of_getElem? (i := 24) rfl))))) (by decide +kernel)
theorem w_456 : (Jvm.Cond.code ({ cls := "RaceWatch$Worker", name := "begin", desc := "(LRaceWatch$Clock;I)V" } : Jvm.MethodName) prog_7_method_2_code (3 : Nat) (Option.none : Option FieldType)) ∈ WS := ws_in (List.mem_append_right _ (List.mem_append_right _ (List.mem_append_right _ (List.mem_append_left _ (List.mem_of_getElem? (i := 25) rfl))))) (by decide +kernel)
theorem w_457 : (Jvm.Cond.methodLinkNest "RaceWatch$Worker" (29 : Nat) ({ cls := "RaceWatch$Clock", name := "learn", desc := "(LRaceWatch$Clock;)V" } : Jvm.MethodName) "RaceWatch") ∈ WS := ws_in (List.mem_append_right _ (List.mem_append_right _ (List.mem_append_right _ (List.mem_append_left _ (List.mem_of_getElem? (i := 26) rfl))))) (by decide +kernel)
theorem w_458 : (Jvm.Cond.methodLink "RaceWatch$Worker" (33 : Nat) ({ cls := "RaceWatch$Worker", name := "goTo", desc := "(II)V" } : Jvm.MethodName)) ∈ WS := ws_in (List.mem_append_right _ (List.mem_append_right _ (List.mem_append_right _ (List.mem_append_left _ (List.mem_of_getElem? (i := 27) rfl))))) (by decide +kernel)
theorem w_459 : (Jvm.Cond.methodLinkNest "RaceWatch" (225 : Nat) ({ cls := "RaceWatch$Trace", name := "append", desc := "(ILRaceWatch$Clock;)I" } : Jvm.MethodName) "RaceWatch") ∈ WS := ws_in (List.mem_append_right _ (List.mem_append_right _ (List.mem_append_right _ (List.mem_append_left _ (List.mem_of_getElem? (i := 28) rfl))))) (by decide +kernel)
theorem w_460 : (Jvm.Cond.privateMethod ({ cls := "RaceWatch$Trace", name := "append", desc := "(ILRaceWatch$Clock;)I" } : Jvm.MethodName)) ∈ WS := ws_in (List.mem_append_right _ (List.mem_append_right _ (List.mem_append_right _ (List.mem_append_left _ (List.mem_of_getElem? (i := 29) rfl))))) (by decide +kernel)
theorem w_461 : (Jvm.Cond.instanceMethod ({ cls := "RaceWatch$Trace", name := "append", desc := "(ILRaceWatch$Clock;)I" } : Jvm.MethodName)) ∈ WS := ws_in (List.mem_append_right _ (List.mem_append_right _ (List.mem_append_right _ (List.mem_append_left _ (List.mem_of_getElem? (i := 30) rfl))))) (by decide +kernel)
theorem w_462 : (Jvm.Cond.code ({ cls := "RaceWatch$Trace", name := "append", desc := "(ILRaceWatch$Clock;)I" } : Jvm.MethodName) prog_6_method_4_code (4 : Nat) (Option.some FieldType.int)) ∈ WS := ws_in (List.mem_append_right _ (List.mem_append_right _ (List.mem_append_right _ (List.mem_append_left _ (List.mem_of_getElem? (i := 31) rfl))))) (by decide +kernel)
theorem w_463 : (Jvm.Cond.methodLink "RaceWatch$Trace" (27 : Nat) ({ cls := "java/lang/System", name := "arraycopy", desc := "(Ljava/lang/Object;ILjava/lang/Object;II)V" } : Jvm.MethodName)) ∈ WS := ws_in (List.mem_append_right _ (List.mem_append_right _ (List.mem_append_right _ (List.mem_append_left _ (List.mem_of_getElem? (i := 32) rfl))))) (by decide +kernel)
theorem w_464 : (Jvm.Cond.static ({ cls := "java/lang/System", name := "arraycopy", desc := "(Ljava/lang/Object;ILjava/lang/Object;II)V" } : Jvm.MethodName)) ∈ WS := ws_in (List.mem_append_right _ (List.mem_append_right _ (List.mem_append_right _ (List.mem_append_left _ (List.mem_of_getElem? (i := 33) rfl))))) (by decide +kernel)
theorem w_465 : (Jvm.Cond.native ({ cls := "java/lang/System", name := "arraycopy", desc := "(Ljava/lang/Object;ILjava/lang/Object;II)V" } : Jvm.MethodName)) ∈ WS := ws_in (List.mem_append_right _ (List.mem_append_right _ (List.mem_append_right _ (List.mem_append_left _ (List.mem_of_getElem? (i := 34) rfl))))) (by decide +kernel)
theorem w_466 : (Jvm.Cond.methodLink "RaceWatch" (228 : Nat) ({ cls := "RaceWatch", name := "isAccess", desc := "(I)Z" } : Jvm.MethodName)) ∈ WS := ws_in (List.mem_append_right _ (List.mem_append_right _ (List.mem_append_right _ (List.mem_append_left _ (List.mem_of_getElem? (i := 35) rfl))))) (by decide +kernel)
theorem w_467 : (Jvm.Cond.static ({ cls := "RaceWatch", name := "isAccess", desc := "(I)Z" } : Jvm.MethodName)) ∈ WS := ws_in (List.mem_append_right _ (List.mem_append_right _ (List.mem_append_right _ (List.mem_append_left _ (List.mem_of_getElem? (i := 36) rfl))))) (by decide +kernel)
theorem w_468 : (Jvm.Cond.code ({ cls := "RaceWatch", name := "isAccess", desc := "(I)Z" } : Jvm.MethodName) prog_1_method_22_code (1 : Nat) (Option.some FieldType.boolean)) ∈ WS := ws_in (List.mem_append_right _ (List.mem_append_right _ (List.mem_append_right _ (List.mem_append_left _ (List.mem_of_getElem? (i := 37) rfl))))) (by decide +kernel)
theorem w_469 : (Jvm.Cond.methodLink "RaceWatch" (190 : Nat) ({ cls := "RaceWatch", name := "isWrite", desc := "(I)Z" } : Jvm.MethodName)) ∈ WS := ws_in (List.mem_append_right _ (List.mem_append_right _ (List.mem_append_right _ (List.mem_append_left _ (List.mem_of_getElem? (i := 38) rfl))))) (by decide +kernel)
theorem w_470 : (Jvm.Cond.static ({ cls := "RaceWatch", name := "isWrite", desc := "(I)Z" } : Jvm.MethodName)) ∈ WS := ws_in (List.mem_append_right _ (List.mem_append_right _ (List.mem_append_right _ (List.mem_append_left _ (List.mem_of_getElem? (i := 39) rfl))))) (by decide +kernel)
theorem w_471 : (Jvm.Cond.code ({ cls := "RaceWatch", name := "isWrite", desc := "(I)Z" } : Jvm.MethodName) prog_1_method_21_code (1 : Nat) (Option.some FieldType.boolean)) ∈ WS := ws_in (List.mem_append_right _ (List.mem_append_right _ (List.mem_append_right _ (List.mem_append_left _ (List.mem_of_getElem? (i := 40) rfl))))) (by decide +kernel)
theorem w_472 : (Jvm.Cond.methodLinkNest "RaceWatch" (231 : Nat) ({ cls := "RaceWatch$RaceBook", name := "enter", desc := "(LRaceWatch$Trace;IIZ)V" } : Jvm.MethodName) "RaceWatch") ∈ WS := ws_in (List.mem_append_right _ (List.mem_append_right _ (List.mem_append_right _ (List.mem_append_left _ (List.mem_of_getElem? (i := 41) rfl))))) (by decide +kernel)
theorem w_473 : (Jvm.Cond.privateMethod ({ cls := "RaceWatch$RaceBook", name := "enter", desc := "(LRaceWatch$Trace;IIZ)V" } : Jvm.MethodName)) ∈ WS := ws_in (List.mem_append_right _ (List.mem_append_right _ (List.mem_append_right _ (List.mem_append_left _ (List.mem_of_getElem? (i := 42) rfl))))) (by decide +kernel)
theorem w_474 : (Jvm.Cond.instanceMethod ({ cls := "RaceWatch$RaceBook", name := "enter", desc := "(LRaceWatch$Trace;IIZ)V" } : Jvm.MethodName)) ∈ WS := ws_in (List.mem_append_right _ (List.mem_append_right _ (List.mem_append_right _ (List.mem_append_left _ (List.mem_of_getElem? (i := 43) rfl))))) (by decide +kernel)
theorem w_475 : (Jvm.Cond.code ({ cls := "RaceWatch$RaceBook", name := "enter", desc := "(LRaceWatch$Trace;IIZ)V" } : Jvm.MethodName) prog_5_method_3_code (6 : Nat) (Option.none : Option FieldType)) ∈ WS := ws_in (List.mem_append_right _ (List.mem_append_right _ (List.mem_append_right _ (List.mem_append_left _ (List.mem_of_getElem? (i := 44) rfl))))) (by decide +kernel)
theorem w_476 : (Jvm.Cond.methodLink "RaceWatch$RaceBook" (33 : Nat) ({ cls := "RaceWatch$RaceBook", name := "rivalOf", desc := "(LRaceWatch$Trace;IIZ)I" } : Jvm.MethodName)) ∈ WS := ws_in (List.mem_append_right _ (List.mem_append_right _ (List.mem_append_right _ (List.mem_append_left _ (List.mem_of_getElem? (i := 45) rfl))))) (by decide +kernel)
theorem w_477 : (Jvm.Cond.privateMethod ({ cls := "RaceWatch$RaceBook", name := "rivalOf", desc := "(LRaceWatch$Trace;IIZ)I" } : Jvm.MethodName)) ∈ WS := ws_in (List.mem_append_right _ (List.mem_append_right _ (List.mem_append_right _ (List.mem_append_left _ (List.mem_of_getElem? (i := 46) rfl))))) (by decide +kernel)
theorem w_478 : (Jvm.Cond.instanceMethod ({ cls := "RaceWatch$RaceBook", name := "rivalOf", desc := "(LRaceWatch$Trace;IIZ)I" } : Jvm.MethodName)) ∈ WS := ws_in (List.mem_append_right _ (List.mem_append_right _ (List.mem_append_right _ (List.mem_append_left _ (List.mem_of_getElem? (i := 47) rfl))))) (by decide +kernel)
theorem w_479 : (Jvm.Cond.code ({ cls := "RaceWatch$RaceBook", name := "rivalOf", desc := "(LRaceWatch$Trace;IIZ)I" } : Jvm.MethodName) prog_5_method_4_code (6 : Nat) (Option.some FieldType.int)) ∈ WS := ws_in (List.mem_append_right _ (List.mem_append_right _ (List.mem_append_right _ (List.mem_append_left _ (List.mem_of_getElem? (i := 48) rfl))))) (by decide +kernel)
theorem w_480 : (Jvm.Cond.methodLinkNest "RaceWatch$RaceBook" (43 : Nat) ({ cls := "RaceWatch$Trace", name := "isOrdered", desc := "(II)Z" } : Jvm.MethodName) "RaceWatch") ∈ WS := ws_in (List.mem_append_right _ (List.mem_append_right _ (List.mem_append_right _ (List.mem_append_left _ (List.mem_of_getElem? (i := 49) rfl))))) (by decide +kernel)
theorem w_481 : (Jvm.Cond.methodLink "RaceWatch$RaceBook" (47 : Nat) ({ cls := "RaceWatch$RaceBook", name := "looseRead", desc := "(LRaceWatch$Trace;II)I" } : Jvm.MethodName)) ∈ WS := ws_in (List.mem_append_right _ (List.mem_append_right _ (List.mem_append_right _ (List.mem_append_left _ (List.mem_of_getElem? (i := 50) rfl))))) (by decide +kernel)
theorem w_482 : (Jvm.Cond.privateMethod ({ cls := "RaceWatch$RaceBook", name := "looseRead", desc := "(LRaceWatch$Trace;II)I" } : Jvm.MethodName)) ∈ WS := ws_in (List.mem_append_right _ (List.mem_append_right _ (List.mem_append_right _ (List.mem_append_left _ (List.mem_of_getElem? (i := 51) rfl))))) (by decide +kernel)
theorem w_483 : (Jvm.Cond.instanceMethod ({ cls := "RaceWatch$RaceBook", name := "looseRead", desc := "(LRaceWatch$Trace;II)I" } : Jvm.MethodName)) ∈ WS := ws_in (List.mem_append_right _ (List.mem_append_right _ (List.mem_append_right _ (List.mem_append_left _ (List.mem_of_getElem? (i := 52) rfl))))) (by decide +kernel)
theorem w_484 : (Jvm.Cond.code ({ cls := "RaceWatch$RaceBook", name := "looseRead", desc := "(LRaceWatch$Trace;II)I" } : Jvm.MethodName) prog_5_method_5_code (7 : Nat) (Option.some FieldType.int)) ∈ WS := ws_in (List.mem_append_right _ (List.mem_append_right _ (List.mem_append_right _ (List.mem_append_left _ (List.mem_of_getElem? (i := 53) rfl))))) (by decide +kernel)
theorem w_485 : (Jvm.Cond.methodLinkNest "RaceWatch$RaceBook" (37 : Nat) ({ cls := "RaceWatch$Trace", name := "threadOf", desc := "(I)I" } : Jvm.MethodName) "RaceWatch") ∈ WS := ws_in (List.mem_append_right _ (List.mem_append_right _ (List.mem_append_right _ (List.mem_append_left _ (List.mem_of_getElem? (i := 54) rfl))))) (by decide +kernel)
theorem w_486 : (Jvm.Cond.methodLink "RaceWatch" (235 : Nat) ({ cls := "java/lang/Math", name := "min", desc := "(II)I" } : Jvm.MethodName)) ∈ WS := ws_in (List.mem_append_right _ (List.mem_append_right _ (List.mem_append_right _ (List.mem_append_left _ (List.mem_of_getElem? (i := 55) rfl))))) (by decide +kernel)
theorem w_487 : (Jvm.Cond.static ({ cls := "java/lang/Math", name := "min", desc := "(II)I" } : Jvm.MethodName)) ∈ WS := ws_in (List.mem_append_right _ (List.mem_append_right _ (List.mem_append_right _ (List.mem_append_left _ (List.mem_of_getElem? (i := 56) rfl))))) (by decide +kernel)
theorem w_488 : (Jvm.Cond.code ({ cls := "java/lang/Math", name := "min", desc := "(II)I" } : Jvm.MethodName) prog_15_method_69_code (2 : Nat) (Option.some FieldType.int)) ∈ WS := ws_in (List.mem_append_right _ (List.mem_append_right _ (List.mem_append_right _ (List.mem_append_left _ (List.mem_of_getElem? (i := 57) rfl))))) (by decide +kernel)
theorem w_489 : (Jvm.Cond.classLink "RaceWatchLaw" (26 : Nat) "RaceWatchModel") ∈ WS := ws_in (List.mem_append_right _ (List.mem_append_right _ (List.mem_append_right _ (List.mem_append_left _ (List.mem_of_getElem? (i := 58) rfl))))) (by decide +kernel)
theorem w_490 : (Jvm.Cond.instantiable "RaceWatchModel" (20 : Nat)) ∈ WS := ws_in (List.mem_append_right _ (List.mem_append_right _ (List.mem_append_right _ (List.mem_append_left _ (List.mem_of_getElem? (i := 59) rfl))))) (by decide +kernel)
theorem w_491 : (Jvm.Cond.methodLink "RaceWatchLaw" (28 : Nat) ({ cls := "RaceWatchModel", name := "<init>", desc := "()V" } : Jvm.MethodName)) ∈ WS := ws_in (List.mem_append_right _ (List.mem_append_right _ (List.mem_append_right _ (List.mem_append_left _ (List.mem_of_getElem? (i := 60) rfl))))) (by decide +kernel)
theorem w_492 : (Jvm.Cond.instanceMethod ({ cls := "RaceWatchModel", name := "<init>", desc := "()V" } : Jvm.MethodName)) ∈ WS := ws_in (List.mem_append_right _ (List.mem_append_right _ (List.mem_append_right _ (List.mem_append_left _ (List.mem_of_getElem? (i := 61) rfl))))) (by decide +kernel)
theorem w_493 : (Jvm.Cond.code ({ cls := "RaceWatchModel", name := "<init>", desc := "()V" } : Jvm.MethodName) prog_9_method_1_code (1 : Nat) (Option.none : Option FieldType)) ∈ WS := ws_in (List.mem_append_right _ (List.mem_append_right _ (List.mem_append_right _ (List.mem_append_left _ (List.mem_of_getElem? (i := 62) rfl))))) (by decide +kernel)
theorem w_494 : (Jvm.Cond.methodLink "RaceWatchModel" (1 : Nat) ({ cls := "java/lang/Object", name := "<init>", desc := "()V" } : Jvm.MethodName)) ∈ WS := ws_in (List.mem_append_right _ (List.mem_append_right _ (List.mem_append_right _ (List.mem_append_left _ (List.mem_of_getElem? (i := 63) rfl))))) (by decide +kernel)
theorem w_495 : (Jvm.Cond.methodLink "RaceWatchModel" (60 : Nat) ({ cls := "RaceWatchModel", name := "clear", desc := "()V" } : Jvm.MethodName)) ∈ WS := ws_in (List.mem_append_right _ (List.mem_append_right _ (List.mem_append_right _ (List.mem_append_left _ (List.mem_of_getElem? (i := 64) rfl))))) (by decide +kernel)
theorem w_496 : (Jvm.Cond.instanceMethod ({ cls := "RaceWatchModel", name := "clear", desc := "()V" } : Jvm.MethodName)) ∈ WS := ws_in (List.mem_append_right _ (List.mem_append_right _ (List.mem_append_right _ (List.mem_append_left _ (List.mem_of_getElem? (i := 65) rfl))))) (by decide +kernel)
theorem w_497 : (Jvm.Cond.selects "RaceWatchModel" ({ cls := "RaceWatchModel", name := "clear", desc := "()V" } : Jvm.MethodName) ({ cls := "RaceWatchModel", name := "clear", desc := "()V" } : Jvm.MethodName)) ∈ WS := ws_in (List.mem_append_right _ (List.mem_append_right _ (List.mem_append_right _ (List.mem_append_left _ (List.mem_of_getElem? (i := 66) rfl))))) (by decide +kernel)
theorem w_498 : (Jvm.Cond.code ({ cls := "RaceWatchModel", name := "clear", desc := "()V" } : Jvm.MethodName) prog_9_method_7_code (2 : Nat) (Option.none : Option FieldType)) ∈ WS := ws_in (List.mem_append_right _ (List.mem_append_right _ (List.mem_append_right _ (List.mem_append_left _ (List.mem_of_getElem? (i := 67) rfl))))) (by decide +kernel)
theorem w_499 : (Jvm.Cond.fieldLink "RaceWatchModel" (63 : Nat) "RaceWatchModel" "thrown" "I") ∈ WS := ws_in (List.mem_append_right _ (List.mem_append_right _ (List.mem_append_right _ (List.mem_append_left _ (List.mem_of_getElem? (i := 68) rfl))))) (by decide +kernel)
theorem w_500 : (Jvm.Cond.fieldLink "RaceWatchModel" (71 : Nat) "RaceWatchModel" "started" "Z") ∈ WS := ws_in (List.mem_append_right _ (List.mem_append_right _ (List.mem_append_right _ (List.mem_append_left _ (List.mem_of_getElem? (i := 69) rfl))))) (by decide +kernel)
theorem w_501 : (Jvm.Cond.fieldLink "RaceWatchModel" (89 : Nat) "RaceWatchModel" "isCoarse" "Z") ∈ WS := ws_in (List.mem_append_right _ (List.mem_append_right _ (List.mem_append_right _ (List.mem_append_left _ (List.mem_of_getElem? (i := 70) rfl))))) (by decide +kernel)
theorem w_502 : (Jvm.Cond.fieldLink "RaceWatchModel" (7 : Nat) "RaceWatchModel" "many" "[I") ∈ WS := ws_in (List.mem_append_right _ (List.mem_append_right _ (List.mem_append_right _ (List.mem_append_left _ (List.mem_of_getElem? (i := 71) rfl))))) (by decide +kernel)
theorem w_503 : (Jvm.Cond.fieldLink "RaceWatchModel" (13 : Nat) "RaceWatchModel" "ops" "[I") ∈ WS := ws_in (List.mem_append_right _ (List.mem_append_right _ (List.mem_append_right _ (List.mem_append_left _ (List.mem_of_getElem? (i := 72) rfl))))) (by decide +kernel)
theorem w_504 : (Jvm.Cond.fieldLink "RaceWatchModel" (16 : Nat) "RaceWatchModel" "firsts" "[I") ∈ WS := ws_in (List.mem_append_right _ (List.mem_append_right _ (List.mem_append_right _ (List.mem_append_left _ (List.mem_of_getElem? (i := 73) rfl))))) (by decide +kernel)
theorem w_505 : (Jvm.Cond.fieldLink "RaceWatchModel" (19 : Nat) "RaceWatchModel" "seconds" "[I") ∈ WS := ws_in (List.mem_append_right _ (List.mem_append_right _ (List.mem_append_right _ (List.mem_append_left _ (List.mem_of_getElem? (i := 74) rfl))))) (by decide +kernel)
theorem w_506 : (Jvm.Cond.fieldLink "RaceWatchModel" (22 : Nat) "RaceWatchModel" "status" "[I") ∈ WS := ws_in (List.mem_append_right _ (List.mem_append_right _ (List.mem_append_right _ (List.mem_append_left _ (List.mem_of_getElem? (i := 75) rfl))))) (by decide +kernel)
theorem w_507 : (Jvm.Cond.fieldLink "RaceWatchModel" (25 : Nat) "RaceWatchModel" "place" "[I") ∈ WS := ws_in (List.mem_append_right _ (List.mem_append_right _ (List.mem_append_right _ (List.mem_append_left _ (List.mem_of_getElem? (i := 76) rfl))))) (by decide +kernel)
theorem w_508 : (Jvm.Cond.fieldLink "RaceWatchModel" (28 : Nat) "RaceWatchModel" "register" "[I") ∈ WS := ws_in (List.mem_append_right _ (List.mem_append_right _ (List.mem_append_right _ (List.mem_append_left _ (List.mem_of_getElem? (i := 77) rfl))))) (by decide +kernel)
theorem w_509 : (Jvm.Cond.fieldLink "RaceWatchModel" (31 : Nat) "RaceWatchModel" "owner" "[I") ∈ WS := ws_in (List.mem_append_right _ (List.mem_append_right _ (List.mem_append_right _ (List.mem_append_left _ (List.mem_of_getElem? (i := 78) rfl))))) (by decide +kernel)
theorem w_510 : (Jvm.Cond.fieldLink "RaceWatchModel" (34 : Nat) "RaceWatchModel" "times" "[I") ∈ WS := ws_in (List.mem_append_right _ (List.mem_append_right _ (List.mem_append_right _ (List.mem_append_left _ (List.mem_of_getElem? (i := 79) rfl))))) (by decide +kernel)
theorem w_511 : (Jvm.Cond.fieldLink "RaceWatchModel" (78 : Nat) "RaceWatchModel" "count" "I") ∈ WS := ws_in (List.mem_append_right _ (List.mem_append_right _ (List.mem_append_right _ (List.mem_append_left _ (List.mem_of_getElem? (i := 80) rfl))))) (by decide +kernel)
theorem w_512 : (Jvm.Cond.fieldLink "RaceWatchModel" (37 : Nat) "RaceWatchModel" "who" "[I") ∈ WS := ws_in (List.mem_append_right _ (List.mem_append_right _ (List.mem_append_right _ (List.mem_append_left _ (List.mem_of_getElem? (i := 81) rfl))))) (by decide +kernel)
theorem w_513 : (Jvm.Cond.fieldLink "RaceWatchModel" (40 : Nat) "RaceWatchModel" "op" "[I") ∈ WS := ws_in (List.mem_append_right _ (List.mem_append_right _ (List.mem_append_right _ (List.mem_append_left _ (List.mem_of_getElem? (i := 82) rfl))))) (by decide +kernel)
theorem w_514 : (Jvm.Cond.fieldLink "RaceWatchModel" (43 : Nat) "RaceWatchModel" "of" "[I") ∈ WS := ws_in (List.mem_append_right _ (List.mem_append_right _ (List.mem_append_right _ (List.mem_append_left _ (List.mem_of_getElem? (i := 83) rfl))))) (by decide +kernel)
theorem w_515 : (Jvm.Cond.fieldLink "RaceWatchModel" (46 : Nat) "RaceWatchModel" "hands" "[Z") ∈ WS := ws_in (List.mem_append_right _ (List.mem_append_right _ (List.mem_append_right _ (List.mem_append_left _ (List.mem_of_getElem? (i := 84) rfl))))) (by decide +kernel)
theorem w_516 : (Jvm.Cond.fieldLink "RaceWatchModel" (50 : Nat) "RaceWatchModel" "sets" "[J") ∈ WS := ws_in (List.mem_append_right _ (List.mem_append_right _ (List.mem_append_right _ (List.mem_append_left _ (List.mem_of_getElem? (i := 85) rfl))))) (by decide +kernel)
theorem w_517 : (Jvm.Cond.fieldLink "RaceWatchModel" (54 : Nat) "RaceWatchModel" "raced" "[I") ∈ WS := ws_in (List.mem_append_right _ (List.mem_append_right _ (List.mem_append_right _ (List.mem_append_left _ (List.mem_of_getElem? (i := 86) rfl))))) (by decide +kernel)
theorem w_518 : (Jvm.Cond.fieldLink "RaceWatchModel" (57 : Nat) "RaceWatchModel" "partners" "[I") ∈ WS := ws_in (List.mem_append_right _ (List.mem_append_right _ (List.mem_append_right _ (List.mem_append_left _ (List.mem_of_getElem? (i := 87) rfl))))) (by decide +kernel)
theorem w_519 : (Jvm.Cond.lays "RaceWatchModel" "RaceWatchModel" "thrown" "I") ∈ WS := ws_in (List.mem_append_right _ (List.mem_append_right _ (List.mem_append_right _ (List.mem_append_left _ (List.mem_of_getElem? (i := 88) rfl))))) (by decide +kernel)
theorem w_520 : (Jvm.Cond.lays "RaceWatchModel" "RaceWatchModel" "started" "Z") ∈ WS := ws_in (List.mem_append_right _ (List.mem_append_right _ (List.mem_append_right _ (List.mem_append_left _ (List.mem_of_getElem? (i := 90) rfl))))) (by decide +kernel)
theorem w_521 : (Jvm.Cond.lays "RaceWatchModel" "RaceWatchModel" "isCoarse" "Z") ∈ WS := ws_in (List.mem_append_right _ (List.mem_append_right _ (List.mem_append_right _ (List.mem_append_left _ (List.mem_of_getElem? (i := 92) rfl))))) (by decide +kernel)
theorem w_522 : (Jvm.Cond.laysFinal "RaceWatchModel" "RaceWatchModel" "many" "[I") ∈ WS := ws_in (List.mem_append_right _ (List.mem_append_right _ (List.mem_append_right _ (List.mem_append_left _ (List.mem_of_getElem? (i := 94) rfl))))) (by decide +kernel)
theorem w_523 : (Jvm.Cond.laysFinal "RaceWatchModel" "RaceWatchModel" "ops" "[I") ∈ WS := ws_in (List.mem_append_right _ (List.mem_append_right _ (List.mem_append_right _ (List.mem_append_left _ (List.mem_of_getElem? (i := 96) rfl))))) (by decide +kernel)
theorem w_524 : (Jvm.Cond.laysFinal "RaceWatchModel" "RaceWatchModel" "firsts" "[I") ∈ WS := ws_in (List.mem_append_right _ (List.mem_append_right _ (List.mem_append_right _ (List.mem_append_left _ (List.mem_of_getElem? (i := 98) rfl))))) (by decide +kernel)
theorem w_525 : (Jvm.Cond.laysFinal "RaceWatchModel" "RaceWatchModel" "seconds" "[I") ∈ WS := ws_in (List.mem_append_right _ (List.mem_append_right _ (List.mem_append_right _ (List.mem_append_left _ (List.mem_of_getElem? (i := 100) rfl))))) (by decide +kernel)
theorem w_526 : (Jvm.Cond.laysFinal "RaceWatchModel" "RaceWatchModel" "status" "[I") ∈ WS := ws_in (List.mem_append_right _ (List.mem_append_right _ (List.mem_append_right _ (List.mem_append_left _ (List.mem_of_getElem? (i := 102) rfl))))) (by decide +kernel)
theorem w_527 : (Jvm.Cond.laysFinal "RaceWatchModel" "RaceWatchModel" "place" "[I") ∈ WS := ws_in (List.mem_append_right _ (List.mem_append_right _ (List.mem_append_right _ (List.mem_append_left _ (List.mem_of_getElem? (i := 104) rfl))))) (by decide +kernel)
theorem w_528 : (Jvm.Cond.laysFinal "RaceWatchModel" "RaceWatchModel" "register" "[I") ∈ WS := ws_in (List.mem_append_right _ (List.mem_append_right _ (List.mem_append_right _ (List.mem_append_left _ (List.mem_of_getElem? (i := 106) rfl))))) (by decide +kernel)
theorem w_529 : (Jvm.Cond.laysFinal "RaceWatchModel" "RaceWatchModel" "owner" "[I") ∈ WS := ws_in (List.mem_append_right _ (List.mem_append_right _ (List.mem_append_right _ (List.mem_append_left _ (List.mem_of_getElem? (i := 108) rfl))))) (by decide +kernel)
theorem w_530 : (Jvm.Cond.laysFinal "RaceWatchModel" "RaceWatchModel" "times" "[I") ∈ WS := ws_in (List.mem_append_right _ (List.mem_append_right _ (List.mem_append_right _ (List.mem_append_left _ (List.mem_of_getElem? (i := 110) rfl))))) (by decide +kernel)
theorem w_531 : (Jvm.Cond.lays "RaceWatchModel" "RaceWatchModel" "count" "I") ∈ WS := ws_in (List.mem_append_right _ (List.mem_append_right _ (List.mem_append_right _ (List.mem_append_left _ (List.mem_of_getElem? (i := 112) rfl))))) (by decide +kernel)
theorem w_532 : (Jvm.Cond.laysFinal "RaceWatchModel" "RaceWatchModel" "who" "[I") ∈ WS := ws_in (List.mem_append_right _ (List.mem_append_right _ (List.mem_append_right _ (List.mem_append_left _ (List.mem_of_getElem? (i := 114) rfl))))) (by decide +kernel)
theorem w_533 : (Jvm.Cond.laysFinal "RaceWatchModel" "RaceWatchModel" "op" "[I") ∈ WS := ws_in (List.mem_append_right _ (List.mem_append_right _ (List.mem_append_right _ (List.mem_append_left _ (List.mem_of_getElem? (i := 116) rfl))))) (by decide +kernel)
theorem w_534 : (Jvm.Cond.laysFinal "RaceWatchModel" "RaceWatchModel" "of" "[I") ∈ WS := ws_in (List.mem_append_right _ (List.mem_append_right _ (List.mem_append_right _ (List.mem_append_left _ (List.mem_of_getElem? (i := 118) rfl))))) (by decide +kernel)
theorem w_535 : (Jvm.Cond.laysFinal "RaceWatchModel" "RaceWatchModel" "hands" "[Z") ∈ WS := ws_in (List.mem_append_right _ (List.mem_append_right _ (List.mem_append_right _ (List.mem_append_left _ (List.mem_of_getElem? (i := 120) rfl))))) (by decide +kernel)
theorem w_536 : (Jvm.Cond.laysFinal "RaceWatchModel" "RaceWatchModel" "sets" "[J") ∈ WS := ws_in (List.mem_append_right _ (List.mem_append_right _ (List.mem_append_right _ (List.mem_append_left _ (List.mem_of_getElem? (i := 122) rfl))))) (by decide +kernel)
theorem w_537 : (Jvm.Cond.laysFinal "RaceWatchModel" "RaceWatchModel" "raced" "[I") ∈ WS := ws_in (List.mem_append_right _ (List.mem_append_right _ (List.mem_append_right _ (List.mem_append_left _ (List.mem_of_getElem? (i := 124) rfl))))) (by decide +kernel)
theorem w_538 : (Jvm.Cond.laysFinal "RaceWatchModel" "RaceWatchModel" "partners" "[I") ∈ WS := ws_in (List.mem_append_right _ (List.mem_append_right _ (List.mem_append_right _ (List.mem_append_left _ (List.mem_of_getElem? (i := 126) rfl))))) (by decide +kernel)
theorem w_539 : (Jvm.Cond.arrayClass FieldType.boolean) ∈ WS := ws_in (List.mem_append_right _ (List.mem_append_right _ (List.mem_append_right _ (List.mem_append_left _ (List.mem_of_getElem? (i := 129) rfl))))) (by decide +kernel)
theorem w_540 : (Jvm.Cond.arrayClass FieldType.long) ∈ WS := ws_in (List.mem_append_right _ (List.mem_append_right _ (List.mem_append_right _ (List.mem_append_left _ (List.mem_of_getElem? (i := 130) rfl))))) (by decide +kernel)
theorem w_541 : (Jvm.Cond.methodLink "RaceWatchLaw" (44 : Nat) ({ cls := "RaceWatchModel", name := "thrown", desc := "()I" } : Jvm.MethodName)) ∈ WS := ws_in (List.mem_append_right _ (List.mem_append_right _ (List.mem_append_right _ (List.mem_append_left _ (List.mem_of_getElem? (i := 131) rfl))))) (by decide +kernel)
theorem w_542 : (Jvm.Cond.instanceMethod ({ cls := "RaceWatchModel", name := "thrown", desc := "()I" } : Jvm.MethodName)) ∈ WS := ws_in (List.mem_append_right _ (List.mem_append_right _ (List.mem_append_right _ (List.mem_append_left _ (List.mem_of_getElem? (i := 132) rfl))))) (by decide +kernel)
theorem w_543 : (Jvm.Cond.selects "RaceWatchModel" ({ cls := "RaceWatchModel", name := "thrown", desc := "()I" } : Jvm.MethodName) ({ cls := "RaceWatchModel", name := "thrown", desc := "()I" } : Jvm.MethodName)) ∈ WS := ws_in (List.mem_append_right _ (List.mem_append_right _ (List.mem_append_right _ (List.mem_append_left _ (List.mem_of_getElem? (i := 133) rfl))))) (by decide +kernel)
theorem w_544 : (Jvm.Cond.code ({ cls := "RaceWatchModel", name := "thrown", desc := "()I" } : Jvm.MethodName) prog_9_method_2_code (1 : Nat) (Option.some FieldType.int)) ∈ WS := ws_in (List.mem_append_right _ (List.mem_append_right _ (List.mem_append_right _ (List.mem_append_left _ (List.mem_of_getElem? (i := 134) rfl))))) (by decide +kernel)
theorem w_545 : (Jvm.Cond.methodLink "RaceWatchLaw" (33 : Nat) ({ cls := "RaceWatchModel", name := "add", desc := "(IIII)I" } : Jvm.MethodName)) ∈ WS := ws_in (List.mem_append_right _ (List.mem_append_right _ (List.mem_append_right _ (List.mem_append_left _ (List.mem_of_getElem? (i := 135) rfl))))) (by decide +kernel)
theorem w_546 : (Jvm.Cond.instanceMethod ({ cls := "RaceWatchModel", name := "add", desc := "(IIII)I" } : Jvm.MethodName)) ∈ WS := ws_in (List.mem_append_right _ (List.mem_append_right _ (List.mem_append_right _ (List.mem_append_left _ (List.mem_of_getElem? (i := 136) rfl))))) (by decide +kernel)
theorem w_547 : (Jvm.Cond.selects "RaceWatchModel" ({ cls := "RaceWatchModel", name := "add", desc := "(IIII)I" } : Jvm.MethodName) ({ cls := "RaceWatchModel", name := "add", desc := "(IIII)I" } : Jvm.MethodName)) ∈ WS := ws_in (List.mem_append_right _ (List.mem_append_right _ (List.mem_append_right _ (List.mem_append_left _ (List.mem_of_getElem? (i := 137) rfl))))) (by decide +kernel)
theorem w_548 : (Jvm.Cond.code ({ cls := "RaceWatchModel", name := "add", desc := "(IIII)I" } : Jvm.MethodName) prog_9_method_6_code (6 : Nat) (Option.some FieldType.int)) ∈ WS := ws_in (List.mem_append_right _ (List.mem_append_right _ (List.mem_append_right _ (List.mem_append_left _ (List.mem_of_getElem? (i := 138) rfl))))) (by decide +kernel)
theorem w_549 : (Jvm.Cond.methodLink "RaceWatchModel" (67 : Nat) ({ cls := "RaceWatchModel", name := "within", desc := "(II)Z" } : Jvm.MethodName)) ∈ WS := ws_in (List.mem_append_right _ (List.mem_append_right _ (List.mem_append_right _ (List.mem_append_left _ (List.mem_of_getElem? (i := 139) rfl))))) (by decide +kernel)
theorem w_550 : (Jvm.Cond.static ({ cls := "RaceWatchModel", name := "within", desc := "(II)Z" } : Jvm.MethodName)) ∈ WS := ws_in (List.mem_append_right _ (List.mem_append_right _ (List.mem_append_right _ (List.mem_append_left _ (List.mem_of_getElem? (i := 140) rfl))))) (by decide +kernel)
theorem w_551 : (Jvm.Cond.code ({ cls := "RaceWatchModel", name := "within", desc := "(II)Z" } : Jvm.MethodName) prog_9_method_4_code (2 : Nat) (Option.some FieldType.boolean)) ∈ WS := ws_in (List.mem_append_right _ (List.mem_append_right _ (List.mem_append_right _ (List.mem_append_left _ (List.mem_of_getElem? (i := 141) rfl))))) (by decide +kernel)
theorem w_552 : (Jvm.Cond.methodLink "RaceWatchModel" (75 : Nat) ({ cls := "RaceWatchModel", name := "names", desc := "(II)Z" } : Jvm.MethodName)) ∈ WS := ws_in (List.mem_append_right _ (List.mem_append_right _ (List.mem_append_right _ (List.mem_append_left _ (List.mem_of_getElem? (i := 142) rfl))))) (by decide +kernel)
theorem w_553 : (Jvm.Cond.static ({ cls := "RaceWatchModel", name := "names", desc := "(II)Z" } : Jvm.MethodName)) ∈ WS := ws_in (List.mem_append_right _ (List.mem_append_right _ (List.mem_append_right _ (List.mem_append_left _ (List.mem_of_getElem? (i := 143) rfl))))) (by decide +kernel)
theorem w_554 : (Jvm.Cond.code ({ cls := "RaceWatchModel", name := "names", desc := "(II)Z" } : Jvm.MethodName) prog_9_method_5_code (2 : Nat) (Option.some FieldType.boolean)) ∈ WS := ws_in (List.mem_append_right _ (List.mem_append_right _ (List.mem_append_right _ (List.mem_append_left _ (List.mem_of_getElem? (i := 144) rfl))))) (by decide +kernel)
theorem w_555 : (Jvm.Cond.methodLink "RaceWatchLaw" (37 : Nat) ({ cls := "RaceWatchModel", name := "clear", desc := "()V" } : Jvm.MethodName)) ∈ WS := ws_in (List.mem_append_right _ (List.mem_append_right _ (List.mem_append_right _ (List.mem_append_left _ (List.mem_of_getElem? (i := 145) rfl))))) (by decide +kernel)
theorem w_556 : (Jvm.Cond.methodLink "RaceWatchLaw" (43 : Nat) ({ cls := "RaceWatchModel", name := "start", desc := "(Z)I" } : Jvm.MethodName)) ∈ WS := ws_in (List.mem_append_right _ (List.mem_append_right _ (List.mem_append_right _ (List.mem_append_left _ (List.mem_of_getElem? (i := 146) rfl))))) (by decide +kernel)
theorem w_557 : (Jvm.Cond.instanceMethod ({ cls := "RaceWatchModel", name := "start", desc := "(Z)I" } : Jvm.MethodName)) ∈ WS := ws_in (List.mem_append_right _ (List.mem_append_right _ (List.mem_append_right _ (List.mem_append_left _ (List.mem_of_getElem? (i := 147) rfl))))) (by decide +kernel)
theorem w_558 : (Jvm.Cond.selects "RaceWatchModel" ({ cls := "RaceWatchModel", name := "start", desc := "(Z)I" } : Jvm.MethodName) ({ cls := "RaceWatchModel", name := "start", desc := "(Z)I" } : Jvm.MethodName)) ∈ WS := ws_in (List.mem_append_right _ (List.mem_append_right _ (List.mem_append_right _ (List.mem_append_left _ (List.mem_of_getElem? (i := 148) rfl))))) (by decide +kernel)
theorem w_559 : (Jvm.Cond.code ({ cls := "RaceWatchModel", name := "start", desc := "(Z)I" } : Jvm.MethodName) prog_9_method_9_code (4 : Nat) (Option.some FieldType.int)) ∈ WS := ws_in (List.mem_append_right _ (List.mem_append_right _ (List.mem_append_right _ (List.mem_append_left _ (List.mem_of_getElem? (i := 149) rfl))))) (by decide +kernel)
theorem w_560 : (Jvm.Cond.methodLink "RaceWatchModel" (81 : Nat) ({ cls := "RaceWatchModel", name := "raise", desc := "(I)I" } : Jvm.MethodName)) ∈ WS := ws_in (List.mem_append_right _ (List.mem_append_right _ (List.mem_append_right _ (List.mem_append_left _ (List.mem_of_getElem? (i := 150) rfl))))) (by decide +kernel)
theorem w_561 : (Jvm.Cond.privateMethod ({ cls := "RaceWatchModel", name := "raise", desc := "(I)I" } : Jvm.MethodName)) ∈ WS := ws_in (List.mem_append_right _ (List.mem_append_right _ (List.mem_append_right _ (List.mem_append_left _ (List.mem_of_getElem? (i := 151) rfl))))) (by decide +kernel)
theorem w_562 : (Jvm.Cond.instanceMethod ({ cls := "RaceWatchModel", name := "raise", desc := "(I)I" } : Jvm.MethodName)) ∈ WS := ws_in (List.mem_append_right _ (List.mem_append_right _ (List.mem_append_right _ (List.mem_append_left _ (List.mem_of_getElem? (i := 152) rfl))))) (by decide +kernel)
theorem w_563 : (Jvm.Cond.code ({ cls := "RaceWatchModel", name := "raise", desc := "(I)I" } : Jvm.MethodName) prog_9_method_3_code (2 : Nat) (Option.some FieldType.int)) ∈ WS := ws_in (List.mem_append_right _ (List.mem_append_right _ (List.mem_append_right _ (List.mem_append_left _ (List.mem_of_getElem? (i := 153) rfl))))) (by decide +kernel)
theorem w_564 : (Jvm.Cond.methodLink "RaceWatchModel" (85 : Nat) ({ cls := "RaceWatchModel", name := "isBad", desc := "()Z" } : Jvm.MethodName)) ∈ WS := ws_in (List.mem_append_right _ (List.mem_append_right _ (List.mem_append_right _ (List.mem_append_left _ (List.mem_of_getElem? (i := 154) rfl))))) (by decide +kernel)
theorem w_565 : (Jvm.Cond.privateMethod ({ cls := "RaceWatchModel", name := "isBad", desc := "()Z" } : Jvm.MethodName)) ∈ WS := ws_in (List.mem_append_right _ (List.mem_append_right _ (List.mem_append_right _ (List.mem_append_left _ (List.mem_of_getElem? (i := 155) rfl))))) (by decide +kernel)
theorem w_566 : (Jvm.Cond.instanceMethod ({ cls := "RaceWatchModel", name := "isBad", desc := "()Z" } : Jvm.MethodName)) ∈ WS := ws_in (List.mem_append_right _ (List.mem_append_right _ (List.mem_append_right _ (List.mem_append_left _ (List.mem_of_getElem? (i := 156) rfl))))) (by decide +kernel)
theorem w_567 : (Jvm.Cond.code ({ cls := "RaceWatchModel", name := "isBad", desc := "()Z" } : Jvm.MethodName) prog_9_method_8_code (7 : Nat) (Option.some FieldType.boolean)) ∈ WS := ws_in (List.mem_append_right _ (List.mem_append_right _ (List.mem_append_right _ (List.mem_append_left _ (List.mem_of_getElem? (i := 157) rfl))))) (by decide +kernel)
theorem w_568 : (Jvm.Cond.methodLink "RaceWatchLaw" (51 : Nat) ({ cls := "RaceWatchModel", name := "step", desc := "(I)I" } : Jvm.MethodName)) ∈ WS := ws_in (List.mem_append_right _ (List.mem_append_right _ (List.mem_append_right _ (List.mem_append_left _ (List.mem_of_getElem? (i := 158) rfl))))) (by decide +kernel)
theorem w_569 : (Jvm.Cond.instanceMethod ({ cls := "RaceWatchModel", name := "step", desc := "(I)I" } : Jvm.MethodName)) ∈ WS := ws_in (List.mem_append_right _ (List.mem_append_right _ (List.mem_append_right _ (List.mem_append_left _ (List.mem_of_getElem? (i := 159) rfl))))) (by decide +kernel)
theorem w_570 : (Jvm.Cond.selects "RaceWatchModel" ({ cls := "RaceWatchModel", name := "step", desc := "(I)I" } : Jvm.MethodName) ({ cls := "RaceWatchModel", name := "step", desc := "(I)I" } : Jvm.MethodName)) ∈ WS := ws_in (List.mem_append_right _ (List.mem_append_right _ (List.mem_append_right _ (List.mem_append_left _ (List.mem_of_getElem? (i := 160) rfl))))) (by decide +kernel)
theorem w_571 : (Jvm.Cond.code ({ cls := "RaceWatchModel", name := "step", desc := "(I)I" } : Jvm.MethodName) prog_9_method_10_code (6 : Nat) (Option.some FieldType.int)) ∈ WS := ws_in (List.mem_append_right _ (List.mem_append_right _ (List.mem_append_right _ (List.mem_append_left _ (List.mem_of_getElem? (i := 161) rfl))))) (by decide +kernel)
theorem w_572 : (Jvm.Cond.methodLink "RaceWatchModel" (92 : Nat) ({ cls := "RaceWatchModel", name := "plain", desc := "(II)V" } : Jvm.MethodName)) ∈ WS := ws_in (List.mem_append_right _ (List.mem_append_right _ (List.mem_append_right _ (List.mem_append_left _ (List.mem_of_getElem? (i := 162) rfl))))) (by decide +kernel)
theorem w_573 : (Jvm.Cond.privateMethod ({ cls := "RaceWatchModel", name := "plain", desc := "(II)V" } : Jvm.MethodName)) ∈ WS := ws_in (List.mem_append_right _ (List.mem_append_right _ (List.mem_append_right _ (List.mem_append_left _ (List.mem_of_getElem? (i := 163) rfl))))) (by decide +kernel)
theorem w_574 : (Jvm.Cond.instanceMethod ({ cls := "RaceWatchModel", name := "plain", desc := "(II)V" } : Jvm.MethodName)) ∈ WS := ws_in (List.mem_append_right _ (List.mem_append_right _ (List.mem_append_right _ (List.mem_append_left _ (List.mem_of_getElem? (i := 164) rfl))))) (by decide +kernel)
theorem w_575 : (Jvm.Cond.code ({ cls := "RaceWatchModel", name := "plain", desc := "(II)V" } : Jvm.MethodName) prog_9_method_12_code (3 : Nat) (Option.none : Option FieldType)) ∈ WS := ws_in (List.mem_append_right _ (List.mem_append_right _ (List.mem_append_right _ (List.mem_append_left _ (List.mem_of_getElem? (i := 165) rfl))))) (by decide +kernel)
theorem w_576 : (Jvm.Cond.methodLink "RaceWatchModel" (100 : Nat) ({ cls := "RaceWatchModel", name := "go", desc := "(II)V" } : Jvm.MethodName)) ∈ WS := ws_in (List.mem_append_right _ (List.mem_append_right _ (List.mem_append_right _ (List.mem_append_left _ (List.mem_of_getElem? (i := 166) rfl))))) (by decide +kernel)
theorem w_577 : (Jvm.Cond.privateMethod ({ cls := "RaceWatchModel", name := "go", desc := "(II)V" } : Jvm.MethodName)) ∈ WS := ws_in (List.mem_append_right _ (List.mem_append_right _ (List.mem_append_right _ (List.mem_append_left _ (List.mem_of_getElem? (i := 167) rfl))))) (by decide +kernel)
theorem w_578 : (Jvm.Cond.instanceMethod ({ cls := "RaceWatchModel", name := "go", desc := "(II)V" } : Jvm.MethodName)) ∈ WS := ws_in (List.mem_append_right _ (List.mem_append_right _ (List.mem_append_right _ (List.mem_append_left _ (List.mem_of_getElem? (i := 168) rfl))))) (by decide +kernel)
theorem w_579 : (Jvm.Cond.code ({ cls := "RaceWatchModel", name := "go", desc := "(II)V" } : Jvm.MethodName) prog_9_method_11_code (3 : Nat) (Option.none : Option FieldType)) ∈ WS := ws_in (List.mem_append_right _ (List.mem_append_right _ (List.mem_append_right _ (List.mem_append_left _ (List.mem_of_getElem? (i := 169) rfl))))) (by decide +kernel)
theorem w_580 : (Jvm.Cond.methodLink "RaceWatchModel" (96 : Nat) ({ cls := "RaceWatchModel", name := "note", desc := "(III)V" } : Jvm.MethodName)) ∈ WS := ws_in (List.mem_append_right _ (List.mem_append_right _ (List.mem_append_right _ (List.mem_append_left _ (List.mem_of_getElem? (i := 170) rfl))))) (by decide +kernel)
theorem w_581 : (Jvm.Cond.privateMethod ({ cls := "RaceWatchModel", name := "note", desc := "(III)V" } : Jvm.MethodName)) ∈ WS := ws_in (List.mem_append_right _ (List.mem_append_right _ (List.mem_append_right _ (List.mem_append_left _ (List.mem_of_getElem? (i := 171) rfl))))) (by decide +kernel)
theorem w_582 : (Jvm.Cond.instanceMethod ({ cls := "RaceWatchModel", name := "note", desc := "(III)V" } : Jvm.MethodName)) ∈ WS := ws_in (List.mem_append_right _ (List.mem_append_right _ (List.mem_append_right _ (List.mem_append_left _ (List.mem_of_getElem? (i := 172) rfl))))) (by decide +kernel)
theorem w_583 : (Jvm.Cond.code ({ cls := "RaceWatchModel", name := "note", desc := "(III)V" } : Jvm.MethodName) prog_9_method_13_code (6 : Nat) (Option.none : Option FieldType)) ∈ WS := ws_in (List.mem_append_right _ (List.mem_append_right _ (List.mem_append_right _ (List.mem_append_left _ (List.mem_of_getElem? (i := 173) rfl))))) (by decide +kernel)
theorem w_584 : (Jvm.Cond.methodLink "RaceWatchModel" (103 : Nat) ({ cls := "RaceWatchModel", name := "leads", desc := "(II)Z" } : Jvm.MethodName)) ∈ WS := ws_in (List.mem_append_right _ (List.mem_append_right _ (List.mem_append_right _ (List.mem_append_left _ (List.mem_of_getElem? (i := 174) rfl))))) (by decide +kernel)
theorem w_585 : (Jvm.Cond.privateMethod ({ cls := "RaceWatchModel", name := "leads", desc := "(II)Z" } : Jvm.MethodName)) ∈ WS := ws_in (List.mem_append_right _ (List.mem_append_right _ (List.mem_append_right _ (List.mem_append_left _ (List.mem_of_getElem? (i := 175) rfl))))) (by decide +kernel)
theorem w_586 : (Jvm.Cond.instanceMethod ({ cls := "RaceWatchModel", name := "leads", desc := "(II)Z" } : Jvm.MethodName)) ∈ WS := ws_in (List.mem_append_right _ (List.mem_append_right _ (List.mem_append_right _ (List.mem_append_left _ (List.mem_of_getElem? (i := 176) rfl))))) (by decide +kernel)
theorem w_587 : (Jvm.Cond.code ({ cls := "RaceWatchModel", name := "leads", desc := "(II)Z" } : Jvm.MethodName) prog_9_method_14_code (8 : Nat) (Option.some FieldType.boolean)) ∈ WS := ws_in (List.mem_append_right _ (List.mem_append_right _ (List.mem_append_right _ (List.mem_append_left _ (List.mem_of_getElem? (i := 177) rfl))))) (by decide +kernel)
theorem w_588 : (Jvm.Cond.methodLink "RaceWatchModel" (106 : Nat) ({ cls := "RaceWatchModel", name := "join", desc := "(II)V" } : Jvm.MethodName)) ∈ WS := ws_in (List.mem_append_right _ (List.mem_append_right _ (List.mem_append_right _ (List.mem_append_left _ (List.mem_of_getElem? (i := 178) rfl))))) (by decide +kernel)
theorem w_589 : (Jvm.Cond.privateMethod ({ cls := "RaceWatchModel", name := "join", desc := "(II)V" } : Jvm.MethodName)) ∈ WS := ws_in (List.mem_append_right _ (List.mem_append_right _ (List.mem_append_right _ (List.mem_append_left _ (List.mem_of_getElem? (i := 179) rfl))))) (by decide +kernel)
theorem w_590 : (Jvm.Cond.instanceMethod ({ cls := "RaceWatchModel", name := "join", desc := "(II)V" } : Jvm.MethodName)) ∈ WS := ws_in (List.mem_append_right _ (List.mem_append_right _ (List.mem_append_right _ (List.mem_append_left _ (List.mem_of_getElem? (i := 180) rfl))))) (by decide +kernel)
theorem w_591 : (Jvm.Cond.code ({ cls := "RaceWatchModel", name := "join", desc := "(II)V" } : Jvm.MethodName) prog_9_method_15_code (4 : Nat) (Option.none : Option FieldType)) ∈ WS := ws_in (List.mem_append_right _ (List.mem_append_right _ (List.mem_append_right _ (List.mem_append_left _ (List.mem_of_getElem? (i := 181) rfl))))) (by decide +kernel)
theorem w_592 : (Jvm.Cond.methodLink "RaceWatchModel" (109 : Nat) ({ cls := "RaceWatchModel", name := "spot", desc := "(IZ)I" } : Jvm.MethodName)) ∈ WS := ws_in (List.mem_append_right _ (List.mem_append_right _ (List.mem_append_right _ (List.mem_append_left _ (List.mem_of_getElem? (i := 182) rfl))))) (by decide +kernel)
theorem w_593 : (Jvm.Cond.privateMethod ({ cls := "RaceWatchModel", name := "spot", desc := "(IZ)I" } : Jvm.MethodName)) ∈ WS := ws_in (List.mem_append_right _ (List.mem_append_right _ (List.mem_append_right _ (List.mem_append_left _ (List.mem_of_getElem? (i := 183) rfl))))) (by decide +kernel)
theorem w_594 : (Jvm.Cond.instanceMethod ({ cls := "RaceWatchModel", name := "spot", desc := "(IZ)I" } : Jvm.MethodName)) ∈ WS := ws_in (List.mem_append_right _ (List.mem_append_right _ (List.mem_append_right _ (List.mem_append_left _ (List.mem_of_getElem? (i := 184) rfl))))) (by decide +kernel)
theorem w_595 : (Jvm.Cond.code ({ cls := "RaceWatchModel", name := "spot", desc := "(IZ)I" } : Jvm.MethodName) prog_9_method_19_code (3 : Nat) (Option.some FieldType.int)) ∈ WS := ws_in (List.mem_append_right _ (List.mem_append_right _ (List.mem_append_right _ (List.mem_append_left _ (List.mem_of_getElem? (i := 185) rfl))))) (by decide +kernel)
theorem w_596 : (Jvm.Cond.methodLink "RaceWatchModel" (113 : Nat) ({ cls := "RaceWatchModel", name := "meets", desc := "(IZ)Z" } : Jvm.MethodName)) ∈ WS := ws_in (List.mem_append_right _ (List.mem_append_right _ (List.mem_append_right _ (List.mem_append_left _ (List.mem_of_getElem? (i := 186) rfl))))) (by decide +kernel)
theorem w_597 : (Jvm.Cond.privateMethod ({ cls := "RaceWatchModel", name := "meets", desc := "(IZ)Z" } : Jvm.MethodName)) ∈ WS := ws_in (List.mem_append_right _ (List.mem_append_right _ (List.mem_append_right _ (List.mem_append_left _ (List.mem_of_getElem? (i := 187) rfl))))) (by decide +kernel)
theorem w_598 : (Jvm.Cond.instanceMethod ({ cls := "RaceWatchModel", name := "meets", desc := "(IZ)Z" } : Jvm.MethodName)) ∈ WS := ws_in (List.mem_append_right _ (List.mem_append_right _ (List.mem_append_right _ (List.mem_append_left _ (List.mem_of_getElem? (i := 188) rfl))))) (by decide +kernel)
theorem w_599 : (Jvm.Cond.code ({ cls := "RaceWatchModel", name := "meets", desc := "(IZ)Z" } : Jvm.MethodName) prog_9_method_21_code (4 : Nat) (Option.some FieldType.boolean)) ∈ WS := ws_in (List.mem_append_right _ (List.mem_append_right _ (List.mem_append_right _ (List.mem_append_left _ (List.mem_of_getElem? (i := 189) rfl))))) (by decide +kernel)
theorem w_600 : (Jvm.Cond.methodLink "RaceWatchModel" (130 : Nat) ({ cls := "RaceWatchModel", name := "raceWith", desc := "(IIZ)Z" } : Jvm.MethodName)) ∈ WS := ws_in (List.mem_append_right _ (List.mem_append_right _ (List.mem_append_right _ (List.mem_append_left _ (List.mem_of_getElem? (i := 190) rfl))))) (by decide +kernel)
theorem w_601 : (Jvm.Cond.privateMethod ({ cls := "RaceWatchModel", name := "raceWith", desc := "(IIZ)Z" } : Jvm.MethodName)) ∈ WS := ws_in (List.mem_append_right _ (List.mem_append_right _ (List.mem_append_right _ (List.mem_append_left _ (List.mem_of_getElem? (i := 191) rfl))))) (by decide +kernel)
theorem w_602 : (Jvm.Cond.instanceMethod ({ cls := "RaceWatchModel", name := "raceWith", desc := "(IIZ)Z" } : Jvm.MethodName)) ∈ WS := ws_in (List.mem_append_right _ (List.mem_append_right _ (List.mem_append_right _ (List.mem_append_left _ (List.mem_of_getElem? (i := 192) rfl))))) (by decide +kernel)
theorem w_603 : (Jvm.Cond.code ({ cls := "RaceWatchModel", name := "raceWith", desc := "(IIZ)Z" } : Jvm.MethodName) prog_9_method_20_code (4 : Nat) (Option.some FieldType.boolean)) ∈ WS := ws_in (List.mem_append_right _ (List.mem_append_right _ (List.mem_append_right _ (List.mem_append_left _ (List.mem_of_getElem? (i := 193) rfl))))) (by decide +kernel)
theorem w_604 : (Jvm.Cond.methodLink "RaceWatchModel" (120 : Nat) ({ cls := "RaceWatchModel", name := "isAccess", desc := "(I)Z" } : Jvm.MethodName)) ∈ WS := ws_in (List.mem_append_right _ (List.mem_append_right _ (List.mem_append_right _ (List.mem_append_left _ (List.mem_of_getElem? (i := 194) rfl))))) (by decide +kernel)
theorem w_605 : (Jvm.Cond.privateMethod ({ cls := "RaceWatchModel", name := "isAccess", desc := "(I)Z" } : Jvm.MethodName)) ∈ WS := ws_in (List.mem_append_right _ (List.mem_append_right _ (List.mem_append_right _ (List.mem_append_left _ (List.mem_of_getElem? (i := 195) rfl))))) (by decide +kernel)
theorem w_606 : (Jvm.Cond.instanceMethod ({ cls := "RaceWatchModel", name := "isAccess", desc := "(I)Z" } : Jvm.MethodName)) ∈ WS := ws_in (List.mem_append_right _ (List.mem_append_right _ (List.mem_append_right _ (List.mem_append_left _ (List.mem_of_getElem? (i := 196) rfl))))) (by decide +kernel)
theorem w_607 : (Jvm.Cond.code ({ cls := "RaceWatchModel", name := "isAccess", desc := "(I)Z" } : Jvm.MethodName) prog_9_method_17_code (2 : Nat) (Option.some FieldType.boolean)) ∈ WS := ws_in (List.mem_append_right _ (List.mem_append_right _ (List.mem_append_right _ (List.mem_append_left _ (List.mem_of_getElem? (i := 197) rfl))))) (by decide +kernel)
theorem w_608 : (Jvm.Cond.methodLink "RaceWatchModel" (124 : Nat) ({ cls := "RaceWatchModel", name := "isWrite", desc := "(I)Z" } : Jvm.MethodName)) ∈ WS := ws_in (List.mem_append_right _ (List.mem_append_right _ (List.mem_append_right _ (List.mem_append_left _ (List.mem_of_getElem? (i := 198) rfl))))) (by decide +kernel)
theorem w_609 : (Jvm.Cond.privateMethod ({ cls := "RaceWatchModel", name := "isWrite", desc := "(I)Z" } : Jvm.MethodName)) ∈ WS := ws_in (List.mem_append_right _ (List.mem_append_right _ (List.mem_append_right _ (List.mem_append_left _ (List.mem_of_getElem? (i := 199) rfl))))) (by decide +kernel)
theorem w_610 : (Jvm.Cond.instanceMethod ({ cls := "RaceWatchModel", name := "isWrite", desc := "(I)Z" } : Jvm.MethodName)) ∈ WS := ws_in (List.mem_append_right _ (List.mem_append_right _ (List.mem_append_right _ (List.mem_append_left _ (List.mem_of_getElem? (i := 200) rfl))))) (by decide +kernel)
theorem w_611 : (Jvm.Cond.code ({ cls := "RaceWatchModel", name := "isWrite", desc := "(I)Z" } : Jvm.MethodName) prog_9_method_18_code (2 : Nat) (Option.some FieldType.boolean)) ∈ WS := ws_in (List.mem_append_right _ (List.mem_append_right _ (List.mem_append_right _ (List.mem_append_left _ (List.mem_of_getElem? (i := 201) rfl))))) (by decide +kernel)
theorem w_612 : (Jvm.Cond.methodLink "RaceWatchModel" (127 : Nat) ({ cls := "RaceWatchModel", name := "isBefore", desc := "(II)Z" } : Jvm.MethodName)) ∈ WS := ws_in (List.mem_append_right _ (List.mem_append_right _ (List.mem_append_right _ (List.mem_append_left _ (List.mem_of_getElem? (i := 202) rfl))))) (by decide +kernel)
theorem w_613 : (Jvm.Cond.privateMethod ({ cls := "RaceWatchModel", name := "isBefore", desc := "(II)Z" } : Jvm.MethodName)) ∈ WS := ws_in (List.mem_append_right _ (List.mem_append_right _ (List.mem_append_right _ (List.mem_append_left _ (List.mem_of_getElem? (i := 203) rfl))))) (by decide +kernel)
theorem w_614 : (Jvm.Cond.instanceMethod ({ cls := "RaceWatchModel", name := "isBefore", desc := "(II)Z" } : Jvm.MethodName)) ∈ WS := ws_in (List.mem_append_right _ (List.mem_append_right _ (List.mem_append_right _ (List.mem_append_left _ (List.mem_of_getElem? (i := 204) rfl))))) (by decide +kernel)
theorem w_615 : (Jvm.Cond.code ({ cls := "RaceWatchModel", name := "isBefore", desc := "(II)Z" } : Jvm.MethodName) prog_9_method_16_code (3 : Nat) (Option.some FieldType.boolean)) ∈ WS := ws_in (List.mem_append_right _ (List.mem_append_right _ (List.mem_append_right _ (List.mem_append_left _ (List.mem_of_getElem? (i := 205) rfl))))) (by decide +kernel)
theorem w_616 : (Jvm.Cond.methodLink "RaceWatchModel" (117 : Nat) ({ cls := "RaceWatchModel", name := "partnerOf", desc := "(IZ)I" } : Jvm.MethodName)) ∈ WS := ws_in (List.mem_append_right _ (List.mem_append_right _ (List.mem_append_right _ (List.mem_append_left _ (List.mem_of_getElem? (i := 206) rfl))))) (by decide +kernel)
theorem w_617 : (Jvm.Cond.privateMethod ({ cls := "RaceWatchModel", name := "partnerOf", desc := "(IZ)I" } : Jvm.MethodName)) ∈ WS := ws_in (List.mem_append_right _ (List.mem_append_right _ (List.mem_append_right _ (List.mem_append_left _ (List.mem_of_getElem? (i := 207) rfl))))) (by decide +kernel)
theorem w_618 : (Jvm.Cond.instanceMethod ({ cls := "RaceWatchModel", name := "partnerOf", desc := "(IZ)I" } : Jvm.MethodName)) ∈ WS := ws_in (List.mem_append_right _ (List.mem_append_right _ (List.mem_append_right _ (List.mem_append_left _ (List.mem_of_getElem? (i := 208) rfl))))) (by decide +kernel)
theorem w_619 : (Jvm.Cond.code ({ cls := "RaceWatchModel", name := "partnerOf", desc := "(IZ)I" } : Jvm.MethodName) prog_9_method_22_code (5 : Nat) (Option.some FieldType.int)) ∈ WS := ws_in (List.mem_append_right _ (List.mem_append_right _ (List.mem_append_right _ (List.mem_append_left _ (List.mem_of_getElem? (i := 209) rfl))))) (by decide +kernel)
theorem w_620 : (Jvm.Cond.methodLink "RaceWatchLaw" (56 : Nat) ({ cls := "RaceWatchModel", name := "state", desc := "(I)J" } : Jvm.MethodName)) ∈ WS := ws_in (List.mem_append_right _ (List.mem_append_right _ (List.mem_append_right _ (List.mem_append_left _ (List.mem_of_getElem? (i := 210) rfl))))) (by decide +kernel)
theorem w_621 : (Jvm.Cond.instanceMethod ({ cls := "RaceWatchModel", name := "state", desc := "(I)J" } : Jvm.MethodName)) ∈ WS := ws_in (List.mem_append_right _ (List.mem_append_right _ (List.mem_append_right _ (List.mem_append_left _ (List.mem_of_getElem? (i := 211) rfl))))) (by decide +kernel)
theorem w_622 : (Jvm.Cond.selects "RaceWatchModel" ({ cls := "RaceWatchModel", name := "state", desc := "(I)J" } : Jvm.MethodName) ({ cls := "RaceWatchModel", name := "state", desc := "(I)J" } : Jvm.MethodName)) ∈ WS := ws_in (List.mem_append_right _ (List.mem_append_right _ (List.mem_append_right _ (List.mem_append_left _ (List.mem_of_getElem? (i := 212) rfl))))) (by decide +kernel)
theorem w_623 : (Jvm.Cond.code ({ cls := "RaceWatchModel", name := "state", desc := "(I)J" } : Jvm.MethodName) prog_9_method_23_code (2 : Nat) (Option.some FieldType.long)) ∈ WS := ws_in (List.mem_append_right _ (List.mem_append_right _ (List.mem_append_right _ (List.mem_append_left _ (List.mem_of_getElem? (i := 213) rfl))))) (by decide +kernel)
theorem w_624 : (Jvm.Cond.constantLong "RaceWatchModel" (134 : Nat) (64 : Int64)) ∈ WS := ws_in (List.mem_append_right _ (List.mem_append_right _ (List.mem_append_right _ (List.mem_append_left _ (List.mem_of_getElem? (i := 214) rfl))))) (by decide +kernel)
theorem w_625 : (Jvm.Cond.constantLong "RaceWatchModel" (136 : Nat) (-1 : Int64)) ∈ WS := ws_in (List.mem_append_right _ (List.mem_append_right _ (List.mem_append_right _ (List.mem_append_left _ (List.mem_of_getElem? (i := 215) rfl))))) (by decide +kernel)
theorem w_626 : (Jvm.Cond.methodLink "RaceWatchLaw" (60 : Nat) ({ cls := "RaceWatchModel", name := "holder", desc := "(I)I" } : Jvm.MethodName)) ∈ WS := ws_in (List.mem_append_right _ (List.mem_append_right _ (List.mem_append_right _ (List.mem_append_left _ (List.mem_of_getElem? (i := 216) rfl))))) (by decide +kernel)
theorem w_627 : (Jvm.Cond.instanceMethod ({ cls := "RaceWatchModel", name := "holder", desc := "(I)I" } : Jvm.MethodName)) ∈ WS := ws_in (List.mem_append_right _ (List.mem_append_right _ (List.mem_append_right _ (List.mem_append_left _ (List.mem_of_getElem? (i := 217) rfl))))) (by decide +kernel)
theorem w_628 : (Jvm.Cond.selects "RaceWatchModel" ({ cls := "RaceWatchModel", name := "holder", desc := "(I)I" } : Jvm.MethodName) ({ cls := "RaceWatchModel", name := "holder", desc := "(I)I" } : Jvm.MethodName)) ∈ WS := ws_in (List.mem_append_right _ (List.mem_append_right _ (List.mem_append_right _ (List.mem_append_left _ (List.mem_of_getElem? (i := 218) rfl))))) (by decide +kernel)
theorem w_629 : (Jvm.Cond.code ({ cls := "RaceWatchModel", name := "holder", desc := "(I)I" } : Jvm.MethodName) prog_9_method_24_code (2 : Nat) (Option.some FieldType.int)) ∈ WS := ws_in (List.mem_append_right _ (List.mem_append_right _ (List.mem_append_right _ (List.mem_append_left _ (List.mem_of_getElem? (i := 219) rfl))))) (by decide +kernel)
theorem w_630 : (Jvm.Cond.methodLink "RaceWatchLaw" (64 : Nat) ({ cls := "RaceWatchModel", name := "events", desc := "()I" } : Jvm.MethodName)) ∈ WS := ws_in (List.mem_append_right _ (List.mem_append_right _ (List.mem_append_right _ (List.mem_append_left _ (List.mem_of_getElem? (i := 220) rfl))))) (by decide +kernel)
theorem w_631 : (Jvm.Cond.instanceMethod ({ cls := "RaceWatchModel", name := "events", desc := "()I" } : Jvm.MethodName)) ∈ WS := ws_in (List.mem_append_right _ (List.mem_append_right _ (List.mem_append_right _ (List.mem_append_left _ (List.mem_of_getElem? (i := 221) rfl))))) (by decide +kernel)
theorem w_632 : (Jvm.Cond.selects "RaceWatchModel" ({ cls := "RaceWatchModel", name := "events", desc := "()I" } : Jvm.MethodName) ({ cls := "RaceWatchModel", name := "events", desc := "()I" } : Jvm.MethodName)) ∈ WS := ws_in (List.mem_append_right _ (List.mem_append_right _ (List.mem_append_right _ (List.mem_append_left _ (List.mem_of_getElem? (i := 222) rfl))))) (by decide +kernel)
theorem w_633 : (Jvm.Cond.code ({ cls := "RaceWatchModel", name := "events", desc := "()I" } : Jvm.MethodName) prog_9_method_25_code (1 : Nat) (Option.some FieldType.int)) ∈ WS := ws_in (List.mem_append_right _ (List.mem_append_right _ (List.mem_append_right _ (List.mem_append_left _ (List.mem_of_getElem? (i := 223) rfl))))) (by decide +kernel)
theorem w_634 : (Jvm.Cond.methodLink "RaceWatchLaw" (68 : Nat) ({ cls := "RaceWatchModel", name := "event", desc := "(I)I" } : Jvm.MethodName)) ∈ WS := ws_in (List.mem_append_right _ (List.mem_append_right _ (List.mem_append_right _ (List.mem_append_left _ (List.mem_of_getElem? (i := 224) rfl))))) (by decide +kernel)
theorem w_635 : (Jvm.Cond.instanceMethod ({ cls := "RaceWatchModel", name := "event", desc := "(I)I" } : Jvm.MethodName)) ∈ WS := ws_in (List.mem_append_right _ (List.mem_append_right _ (List.mem_append_right _ (List.mem_append_left _ (List.mem_of_getElem? (i := 225) rfl))))) (by decide +kernel)
theorem w_636 : (Jvm.Cond.selects "RaceWatchModel" ({ cls := "RaceWatchModel", name := "event", desc := "(I)I" } : Jvm.MethodName) ({ cls := "RaceWatchModel", name := "event", desc := "(I)I" } : Jvm.MethodName)) ∈ WS := ws_in (List.mem_append_right _ (List.mem_append_right _ (List.mem_append_right _ (List.mem_append_left _ (List.mem_of_getElem? (i := 226) rfl))))) (by decide +kernel)
theorem w_637 : (Jvm.Cond.code ({ cls := "RaceWatchModel", name := "event", desc := "(I)I" } : Jvm.MethodName) prog_9_method_26_code (2 : Nat) (Option.some FieldType.int)) ∈ WS := ws_in (List.mem_append_right _ (List.mem_append_right _ (List.mem_append_right _ (List.mem_append_left _ (List.mem_of_getElem? (i := 227) rfl))))) (by decide +kernel)
theorem w_638 : (Jvm.Cond.methodLink "RaceWatchLaw" (73 : Nat) ({ cls := "RaceWatchModel", name := "before", desc := "(II)Z" } : Jvm.MethodName)) ∈ WS := ws_in (List.mem_append_right _ (List.mem_append_right _ (List.mem_append_right _ (List.mem_append_left _ (List.mem_of_getElem? (i := 228) rfl))))) (by decide +kernel)
theorem w_639 : (Jvm.Cond.instanceMethod ({ cls := "RaceWatchModel", name := "before", desc := "(II)Z" } : Jvm.MethodName)) ∈ WS := ws_in (List.mem_append_right _ (List.mem_append_right _ (List.mem_append_right _ (List.mem_append_left _ (List.mem_of_getElem? (i := 229) rfl))))) (by decide +kernel)
theorem w_640 : (Jvm.Cond.selects "RaceWatchModel" ({ cls := "RaceWatchModel", name := "before", desc := "(II)Z" } : Jvm.MethodName) ({ cls := "RaceWatchModel", name := "before", desc := "(II)Z" } : Jvm.MethodName)) ∈ WS := ws_in (List.mem_append_right _ (List.mem_append_right _ (List.mem_append_right _ (List.mem_append_left _ (List.mem_of_getElem? (i := 230) rfl))))) (by decide +kernel)
theorem w_641 : (Jvm.Cond.code ({ cls := "RaceWatchModel", name := "before", desc := "(II)Z" } : Jvm.MethodName) prog_9_method_27_code (3 : Nat) (Option.some FieldType.boolean)) ∈ WS := ws_in (List.mem_append_right _ (List.mem_append_right _ (List.mem_append_right _ (List.mem_append_left _ (List.mem_of_getElem? (i := 231) rfl))))) (by decide +kernel)
theorem w_642 : (Jvm.Cond.methodLink "RaceWatchLaw" (77 : Nat) ({ cls := "RaceWatchModel", name := "race", desc := "(I)I" } : Jvm.MethodName)) ∈ WS := ws_in (List.mem_append_right _ (List.mem_append_right _ (List.mem_append_right _ (List.mem_append_left _ (List.mem_of_getElem? (i := 232) rfl))))) (by decide +kernel)
theorem w_643 : (Jvm.Cond.instanceMethod ({ cls := "RaceWatchModel", name := "race", desc := "(I)I" } : Jvm.MethodName)) ∈ WS := ws_in (List.mem_append_right _ (List.mem_append_right _ (List.mem_append_right _ (List.mem_append_left _ (List.mem_of_getElem? (i := 233) rfl))))) (by decide +kernel)
theorem w_644 : (Jvm.Cond.selects "RaceWatchModel" ({ cls := "RaceWatchModel", name := "race", desc := "(I)I" } : Jvm.MethodName) ({ cls := "RaceWatchModel", name := "race", desc := "(I)I" } : Jvm.MethodName)) ∈ WS := ws_in (List.mem_append_right _ (List.mem_append_right _ (List.mem_append_right _ (List.mem_append_left _ (List.mem_of_getElem? (i := 234) rfl))))) (by decide +kernel)
theorem w_645 : (Jvm.Cond.code ({ cls := "RaceWatchModel", name := "race", desc := "(I)I" } : Jvm.MethodName) prog_9_method_28_code (2 : Nat) (Option.some FieldType.int)) ∈ WS := ws_in (List.mem_append_right _ (List.mem_append_right _ (List.mem_append_right _ (List.mem_append_left _ (List.mem_of_getElem? (i := 235) rfl))))) (by decide +kernel)
theorem w_646 : (Jvm.Cond.methodLink "RaceWatchLaw" (81 : Nat) ({ cls := "RaceWatchModel", name := "partner", desc := "(I)I" } : Jvm.MethodName)) ∈ WS := ws_in (List.mem_append_right _ (List.mem_append_right _ (List.mem_append_right _ (List.mem_append_left _ (List.mem_of_getElem? (i := 236) rfl))))) (by decide +kernel)
theorem w_647 : (Jvm.Cond.instanceMethod ({ cls := "RaceWatchModel", name := "partner", desc := "(I)I" } : Jvm.MethodName)) ∈ WS := ws_in (List.mem_append_right _ (List.mem_append_right _ (List.mem_append_right _ (List.mem_append_left _ (List.mem_of_getElem? (i := 237) rfl))))) (by decide +kernel)
theorem w_648 : (Jvm.Cond.selects "RaceWatchModel" ({ cls := "RaceWatchModel", name := "partner", desc := "(I)I" } : Jvm.MethodName) ({ cls := "RaceWatchModel", name := "partner", desc := "(I)I" } : Jvm.MethodName)) ∈ WS := ws_in (List.mem_append_right _ (List.mem_append_right _ (List.mem_append_right _ (List.mem_append_left _ (List.mem_of_getElem? (i := 238) rfl))))) (by decide +kernel)
theorem w_649 : (Jvm.Cond.code ({ cls := "RaceWatchModel", name := "partner", desc := "(I)I" } : Jvm.MethodName) prog_9_method_29_code (2 : Nat) (Option.some FieldType.int)) ∈ WS := ws_in (List.mem_append_right _ (List.mem_append_right _ (List.mem_append_right _ (List.mem_append_left _ (List.mem_of_getElem? (i := 239) rfl))))) (by decide +kernel)
theorem w_650 : (Jvm.Cond.methodLink "RaceWatchLaw" (85 : Nat) ({ cls := "RaceWatchModel", name := "races", desc := "()I" } : Jvm.MethodName)) ∈ WS := ws_in (List.mem_append_right _ (List.mem_append_right _ (List.mem_append_right _ (List.mem_append_right _ (List.mem_of_getElem? (i := 0) rfl))))) (by decide +kernel)
theorem w_651 : (Jvm.Cond.instanceMethod ({ cls := "RaceWatchModel", name := "races", desc := "()I" } : Jvm.MethodName)) ∈ WS := ws_in (List.mem_append_right _ (List.mem_append_right _ (List.mem_append_right _ (List.mem_append_right _ (List.mem_of_getElem? (i := 1) rfl))))) (by decide +kernel)
theorem w_652 : (Jvm.Cond.selects "RaceWatchModel" ({ cls := "RaceWatchModel", name := "races", desc := "()I" } : Jvm.MethodName) ({ cls := "RaceWatchModel", name := "races", desc := "()I" } : Jvm.MethodName)) ∈ WS := ws_in (List.mem_append_right _ (List.mem_append_right _ (List.mem_append_right _ (List.mem_append_right _ (List.mem_of_getElem? (i := 2) rfl))))) (by decide +kernel)
theorem w_653 : (Jvm.Cond.code ({ cls := "RaceWatchModel", name := "races", desc := "()I" } : Jvm.MethodName) prog_9_method_30_code (3 : Nat) (Option.some FieldType.int)) ∈ WS := ws_in (List.mem_append_right _ (List.mem_append_right _ (List.mem_append_right _ (List.mem_append_right _ (List.mem_of_getElem? (i := 3) rfl))))) (by decide +kernel)
theorem w_654 : (Jvm.Cond.methodLink "RaceWatchLaw" (90 : Nat) ({ cls := "RaceWatchModel", name := "again", desc := "(IZ)I" } : Jvm.MethodName)) ∈ WS := ws_in (List.mem_append_right _ (List.mem_append_right _ (List.mem_append_right _ (List.mem_append_right _ (List.mem_of_getElem? (i := 4) rfl))))) (by decide +kernel)
theorem w_655 : (Jvm.Cond.instanceMethod ({ cls := "RaceWatchModel", name := "again", desc := "(IZ)I" } : Jvm.MethodName)) ∈ WS := ws_in (List.mem_append_right _ (List.mem_append_right _ (List.mem_append_right _ (List.mem_append_right _ (List.mem_of_getElem? (i := 5) rfl))))) (by decide +kernel)
theorem w_656 : (Jvm.Cond.selects "RaceWatchModel" ({ cls := "RaceWatchModel", name := "again", desc := "(IZ)I" } : Jvm.MethodName) ({ cls := "RaceWatchModel", name := "again", desc := "(IZ)I" } : Jvm.MethodName)) ∈ WS := ws_in (List.mem_append_right _ (List.mem_append_right _ (List.mem_append_right _ (List.mem_append_right _ (List.mem_of_getElem? (i := 6) rfl))))) (by decide +kernel)
theorem w_657 : (Jvm.Cond.code ({ cls := "RaceWatchModel", name := "again", desc := "(IZ)I" } : Jvm.MethodName) prog_9_method_31_code (5 : Nat) (Option.some FieldType.int)) ∈ WS := ws_in (List.mem_append_right _ (List.mem_append_right _ (List.mem_append_right _ (List.mem_append_right _ (List.mem_of_getElem? (i := 7) rfl))))) (by decide +kernel)
theorem sel_BK_forget : Cond.selects R_BK yBK_forget yBK_forget ∈ WS := ws_in (List.mem_append_left _ (List.mem_map.mpr ⟨(yBK_forget, 4), (List.mem_append_left _ (List.mem_of_getElem? (i := 0) rfl)), rfl⟩)) (by decide +kernel)
theorem sel_PG_isFull : Cond.selects R_PG yPG_isFull yPG_isFull ∈ WS := ws_in (List.mem_append_left _ (List.mem_map.mpr ⟨(yPG_isFull, 4), (List.mem_append_left _ (List.mem_of_getElem? (i := 1) rfl)), rfl⟩)) (by decide +kernel)
theorem sel_PG_append : Cond.selects R_PG yPG_append yPG_append ∈ WS := ws_in (List.mem_append_left _ (List.mem_map.mpr ⟨(yPG_append, 4), (List.mem_append_left _ (List.mem_of_getElem? (i := 2) rfl)), rfl⟩)) (by decide +kernel)
theorem sel_PG_forget : Cond.selects R_PG yPG_forget yPG_forget ∈ WS := ws_in (List.mem_append_left _ (List.mem_map.mpr ⟨(yPG_forget, 4), (List.mem_append_left _ (List.mem_of_getElem? (i := 3) rfl)), rfl⟩)) (by decide +kernel)
theorem sel_WK_forget : Cond.selects R_WK yWK_forget yWK_forget ∈ WS := ws_in (List.mem_append_left _ (List.mem_map.mpr ⟨(yWK_forget, 4), (List.mem_append_left _ (List.mem_of_getElem? (i := 4) rfl)), rfl⟩)) (by decide +kernel)
theorem sel_CK_forget : Cond.selects R_CK yCK_forget yCK_forget ∈ WS := ws_in (List.mem_append_left _ (List.mem_map.mpr ⟨(yCK_forget, 1), (List.mem_append_left _ (List.mem_of_getElem? (i := 5) rfl)), rfl⟩)) (by decide +kernel)
theorem sel_LK_forget : Cond.selects R_LK yLK_forget yLK_forget ∈ WS := ws_in (List.mem_append_left _ (List.mem_map.mpr ⟨(yLK_forget, 3), (List.mem_append_left _ (List.mem_of_getElem? (i := 6) rfl)), rfl⟩)) (by decide +kernel)
theorem sel_TR_forget : Cond.selects R_TR yTR_forget yTR_forget ∈ WS := ws_in (List.mem_append_left _ (List.mem_map.mpr ⟨(yTR_forget, 3), (List.mem_append_left _ (List.mem_of_getElem? (i := 7) rfl)), rfl⟩)) (by decide +kernel)
theorem sel_TR_has : Cond.selects R_TR yTR_has yTR_has ∈ WS := ws_in (List.mem_append_left _ (List.mem_map.mpr ⟨(yTR_has, 3), (List.mem_append_left _ (List.mem_of_getElem? (i := 8) rfl)), rfl⟩)) (by decide +kernel)
theorem sel_TR_isOrdered : Cond.selects R_TR yTR_isOrdered yTR_isOrdered ∈ WS := ws_in (List.mem_append_left _ (List.mem_map.mpr ⟨(yTR_isOrdered, 3), (List.mem_append_left _ (List.mem_of_getElem? (i := 9) rfl)), rfl⟩)) (by decide +kernel)
theorem sel_TR_threadOf : Cond.selects R_TR yTR_threadOf yTR_threadOf ∈ WS := ws_in (List.mem_append_left _ (List.mem_map.mpr ⟨(yTR_threadOf, 3), (List.mem_append_left _ (List.mem_of_getElem? (i := 10) rfl)), rfl⟩)) (by decide +kernel)
theorem sel_RW_ownBook : Cond.selects R_RW yRW_ownBook yRW_ownBook ∈ WS := ws_in (List.mem_append_left _ (List.mem_map.mpr ⟨(yRW_ownBook, 9), (List.mem_append_left _ (List.mem_of_getElem? (i := 11) rfl)), rfl⟩)) (by decide +kernel)
theorem sel_RW_bookOf : Cond.selects R_RW yRW_bookOf yRW_bookOf ∈ WS := ws_in (List.mem_append_left _ (List.mem_map.mpr ⟨(yRW_bookOf, 9), (List.mem_append_left _ (List.mem_of_getElem? (i := 12) rfl)), rfl⟩)) (by decide +kernel)
theorem sel_BK_placesWithin : Cond.selects R_BK yBK_placesWithin yBK_placesWithin ∈ WS := ws_in (List.mem_append_left _ (List.mem_map.mpr ⟨(yBK_placesWithin, 4), (List.mem_append_left _ (List.mem_of_getElem? (i := 13) rfl)), rfl⟩)) (by decide +kernel)
theorem sel_RW_areBad : Cond.selects R_RW yRW_areBad yRW_areBad ∈ WS := ws_in (List.mem_append_left _ (List.mem_map.mpr ⟨(yRW_areBad, 9), (List.mem_append_left _ (List.mem_of_getElem? (i := 15) rfl)), rfl⟩)) (by decide +kernel)
theorem sel_PG_isBad : Cond.selects R_PG yPG_isBad yPG_isBad ∈ WS := ws_in (List.mem_append_left _ (List.mem_map.mpr ⟨(yPG_isBad, 4), (List.mem_append_right _ (List.mem_append_left _ (List.mem_of_getElem? (i := 0) rfl))), rfl⟩)) (by decide +kernel)
theorem sel_RW_instructions : Cond.selects R_RW yRW_instructions yRW_instructions ∈ WS := ws_in (List.mem_append_left _ (List.mem_map.mpr ⟨(yRW_instructions, 9), (List.mem_append_right _ (List.mem_append_left _ (List.mem_of_getElem? (i := 1) rfl))), rfl⟩)) (by decide +kernel)
theorem sel_RW_doQuietly : Cond.selects R_RW yRW_doQuietly yRW_doQuietly ∈ WS := ws_in (List.mem_append_left _ (List.mem_map.mpr ⟨(yRW_doQuietly, 9), (List.mem_append_right _ (List.mem_append_left _ (List.mem_of_getElem? (i := 2) rfl))), rfl⟩)) (by decide +kernel)
theorem sel_WK_goTo : Cond.selects R_WK yWK_goTo yWK_goTo ∈ WS := ws_in (List.mem_append_left _ (List.mem_map.mpr ⟨(yWK_goTo, 4), (List.mem_append_right _ (List.mem_append_left _ (List.mem_of_getElem? (i := 3) rfl))), rfl⟩)) (by decide +kernel)
theorem sel_RW_isInfeasible : Cond.selects R_RW yRW_isInfeasible yRW_isInfeasible ∈ WS := ws_in (List.mem_append_left _ (List.mem_map.mpr ⟨(yRW_isInfeasible, 9), (List.mem_append_right _ (List.mem_append_left _ (List.mem_of_getElem? (i := 4) rfl))), rfl⟩)) (by decide +kernel)
theorem sel_LK_isHeldBy : Cond.selects R_LK yLK_isHeldBy yLK_isHeldBy ∈ WS := ws_in (List.mem_append_left _ (List.mem_map.mpr ⟨(yLK_isHeldBy, 3), (List.mem_append_right _ (List.mem_append_left _ (List.mem_of_getElem? (i := 5) rfl))), rfl⟩)) (by decide +kernel)
theorem sel_TR_isFull : Cond.selects R_TR yTR_isFull yTR_isFull ∈ WS := ws_in (List.mem_append_left _ (List.mem_map.mpr ⟨(yTR_isFull, 3), (List.mem_append_right _ (List.mem_append_left _ (List.mem_of_getElem? (i := 6) rfl))), rfl⟩)) (by decide +kernel)
theorem sel_RW_mustWait : Cond.selects R_RW yRW_mustWait yRW_mustWait ∈ WS := ws_in (List.mem_append_left _ (List.mem_map.mpr ⟨(yRW_mustWait, 9), (List.mem_append_right _ (List.mem_append_left _ (List.mem_of_getElem? (i := 7) rfl))), rfl⟩)) (by decide +kernel)
theorem sel_RW_doEvent : Cond.selects R_RW yRW_doEvent yRW_doEvent ∈ WS := ws_in (List.mem_append_left _ (List.mem_map.mpr ⟨(yRW_doEvent, 9), (List.mem_append_right _ (List.mem_append_left _ (List.mem_of_getElem? (i := 8) rfl))), rfl⟩)) (by decide +kernel)
theorem sel_CK_tick : Cond.selects R_CK yCK_tick yCK_tick ∈ WS := ws_in (List.mem_append_left _ (List.mem_map.mpr ⟨(yCK_tick, 1), (List.mem_append_right _ (List.mem_append_left _ (List.mem_of_getElem? (i := 9) rfl))), rfl⟩)) (by decide +kernel)
theorem sel_RW_synchronise : Cond.selects R_RW yRW_synchronise yRW_synchronise ∈ WS := ws_in (List.mem_append_left _ (List.mem_map.mpr ⟨(yRW_synchronise, 9), (List.mem_append_right _ (List.mem_append_left _ (List.mem_of_getElem? (i := 10) rfl))), rfl⟩)) (by decide +kernel)
theorem sel_LK_take : Cond.selects R_LK yLK_take yLK_take ∈ WS := ws_in (List.mem_append_left _ (List.mem_map.mpr ⟨(yLK_take, 3), (List.mem_append_right _ (List.mem_append_left _ (List.mem_of_getElem? (i := 11) rfl))), rfl⟩)) (by decide +kernel)
theorem sel_CK_learn : Cond.selects R_CK yCK_learn yCK_learn ∈ WS := ws_in (List.mem_append_left _ (List.mem_map.mpr ⟨(yCK_learn, 1), (List.mem_append_right _ (List.mem_append_left _ (List.mem_of_getElem? (i := 12) rfl))), rfl⟩)) (by decide +kernel)
theorem sel_LK_letGo : Cond.selects R_LK yLK_letGo yLK_letGo ∈ WS := ws_in (List.mem_append_left _ (List.mem_map.mpr ⟨(yLK_letGo, 3), (List.mem_append_right _ (List.mem_append_left _ (List.mem_of_getElem? (i := 13) rfl))), rfl⟩)) (by decide +kernel)
theorem sel_WK_begin : Cond.selects R_WK yWK_begin yWK_begin ∈ WS := ws_in (List.mem_append_left _ (List.mem_map.mpr ⟨(yWK_begin, 4), (List.mem_append_right _ (List.mem_append_left _ (List.mem_of_getElem? (i := 14) rfl))), rfl⟩)) (by decide +kernel)
theorem sel_TR_append : Cond.selects R_TR yTR_append yTR_append ∈ WS := ws_in (List.mem_append_left _ (List.mem_map.mpr ⟨(yTR_append, 3), (List.mem_append_right _ (List.mem_append_left _ (List.mem_of_getElem? (i := 15) rfl))), rfl⟩)) (by decide +kernel)
theorem sel_BK_enter : Cond.selects R_BK yBK_enter yBK_enter ∈ WS := ws_in (List.mem_append_left _ (List.mem_map.mpr ⟨(yBK_enter, 4), (List.mem_append_right _ (List.mem_append_right _ (List.mem_append_left _ (List.mem_of_getElem? (i := 0) rfl)))), rfl⟩)) (by decide +kernel)
theorem sel_BK_rivalOf : Cond.selects R_BK yBK_rivalOf yBK_rivalOf ∈ WS := ws_in (List.mem_append_left _ (List.mem_map.mpr ⟨(yBK_rivalOf, 4), (List.mem_append_right _ (List.mem_append_right _ (List.mem_append_left _ (List.mem_of_getElem? (i := 1) rfl)))), rfl⟩)) (by decide +kernel)
theorem sel_BK_looseRead : Cond.selects R_BK yBK_looseRead yBK_looseRead ∈ WS := ws_in (List.mem_append_left _ (List.mem_map.mpr ⟨(yBK_looseRead, 4), (List.mem_append_right _ (List.mem_append_right _ (List.mem_append_left _ (List.mem_of_getElem? (i := 2) rfl)))), rfl⟩)) (by decide +kernel)
theorem sel_MD_raise : Cond.selects R_MD yMD_raise yMD_raise ∈ WS := ws_in (List.mem_append_left _ (List.mem_map.mpr ⟨(yMD_raise, 20), (List.mem_append_right _ (List.mem_append_right _ (List.mem_append_left _ (List.mem_of_getElem? (i := 3) rfl)))), rfl⟩)) (by decide +kernel)
theorem sel_MD_isBad : Cond.selects R_MD yMD_isBad yMD_isBad ∈ WS := ws_in (List.mem_append_left _ (List.mem_map.mpr ⟨(yMD_isBad, 20), (List.mem_append_right _ (List.mem_append_right _ (List.mem_append_left _ (List.mem_of_getElem? (i := 4) rfl)))), rfl⟩)) (by decide +kernel)
theorem sel_MD_plain : Cond.selects R_MD yMD_plain yMD_plain ∈ WS := ws_in (List.mem_append_left _ (List.mem_map.mpr ⟨(yMD_plain, 20), (List.mem_append_right _ (List.mem_append_right _ (List.mem_append_left _ (List.mem_of_getElem? (i := 5) rfl)))), rfl⟩)) (by decide +kernel)
theorem sel_MD_go : Cond.selects R_MD yMD_go yMD_go ∈ WS := ws_in (List.mem_append_left _ (List.mem_map.mpr ⟨(yMD_go, 20), (List.mem_append_right _ (List.mem_append_right _ (List.mem_append_left _ (List.mem_of_getElem? (i := 6) rfl)))), rfl⟩)) (by decide +kernel)
theorem sel_MD_note : Cond.selects R_MD yMD_note yMD_note ∈ WS := ws_in (List.mem_append_left _ (List.mem_map.mpr ⟨(yMD_note, 20), (List.mem_append_right _ (List.mem_append_right _ (List.mem_append_left _ (List.mem_of_getElem? (i := 7) rfl)))), rfl⟩)) (by decide +kernel)
theorem sel_MD_leads : Cond.selects R_MD yMD_leads yMD_leads ∈ WS := ws_in (List.mem_append_left _ (List.mem_map.mpr ⟨(yMD_leads, 20), (List.mem_append_right _ (List.mem_append_right _ (List.mem_append_left _ (List.mem_of_getElem? (i := 8) rfl)))), rfl⟩)) (by decide +kernel)
theorem sel_MD_join : Cond.selects R_MD yMD_join yMD_join ∈ WS := ws_in (List.mem_append_left _ (List.mem_map.mpr ⟨(yMD_join, 20), (List.mem_append_right _ (List.mem_append_right _ (List.mem_append_left _ (List.mem_of_getElem? (i := 9) rfl)))), rfl⟩)) (by decide +kernel)
theorem sel_MD_spot : Cond.selects R_MD yMD_spot yMD_spot ∈ WS := ws_in (List.mem_append_left _ (List.mem_map.mpr ⟨(yMD_spot, 20), (List.mem_append_right _ (List.mem_append_right _ (List.mem_append_left _ (List.mem_of_getElem? (i := 10) rfl)))), rfl⟩)) (by decide +kernel)
theorem sel_MD_meets : Cond.selects R_MD yMD_meets yMD_meets ∈ WS := ws_in (List.mem_append_left _ (List.mem_map.mpr ⟨(yMD_meets, 20), (List.mem_append_right _ (List.mem_append_right _ (List.mem_append_left _ (List.mem_of_getElem? (i := 11) rfl)))), rfl⟩)) (by decide +kernel)
theorem sel_MD_raceWith : Cond.selects R_MD yMD_raceWith yMD_raceWith ∈ WS := ws_in (List.mem_append_left _ (List.mem_map.mpr ⟨(yMD_raceWith, 20), (List.mem_append_right _ (List.mem_append_right _ (List.mem_append_left _ (List.mem_of_getElem? (i := 12) rfl)))), rfl⟩)) (by decide +kernel)
theorem sel_MD_isAccess : Cond.selects R_MD yMD_isAccess yMD_isAccess ∈ WS := ws_in (List.mem_append_left _ (List.mem_map.mpr ⟨(yMD_isAccess, 20), (List.mem_append_right _ (List.mem_append_right _ (List.mem_append_left _ (List.mem_of_getElem? (i := 13) rfl)))), rfl⟩)) (by decide +kernel)
theorem sel_MD_isWrite : Cond.selects R_MD yMD_isWrite yMD_isWrite ∈ WS := ws_in (List.mem_append_left _ (List.mem_map.mpr ⟨(yMD_isWrite, 20), (List.mem_append_right _ (List.mem_append_right _ (List.mem_append_left _ (List.mem_of_getElem? (i := 14) rfl)))), rfl⟩)) (by decide +kernel)
theorem sel_MD_isBefore : Cond.selects R_MD yMD_isBefore yMD_isBefore ∈ WS := ws_in (List.mem_append_left _ (List.mem_map.mpr ⟨(yMD_isBefore, 20), (List.mem_append_right _ (List.mem_append_right _ (List.mem_append_left _ (List.mem_of_getElem? (i := 15) rfl)))), rfl⟩)) (by decide +kernel)
theorem sel_MD_partnerOf : Cond.selects R_MD yMD_partnerOf yMD_partnerOf ∈ WS := ws_in (List.mem_append_left _ (List.mem_map.mpr ⟨(yMD_partnerOf, 20), (List.mem_append_right _ (List.mem_append_right _ (List.mem_append_right _ (List.mem_of_getElem? (i := 0) rfl)))), rfl⟩)) (by decide +kernel)
theorem ry_RW_init : Ry yRW_init 0 := ⟨⟨by decide, by decide⟩, by decide +kernel⟩
theorem ry_PG_init : Ry yPG_init 0 := ⟨⟨by decide, by decide⟩, by decide +kernel⟩
theorem ry_WK_init : Ry yWK_init 0 := ⟨⟨by decide, by decide⟩, by decide +kernel⟩
theorem ry_CK_init : Ry yCK_init 0 := ⟨⟨by decide, by decide⟩, by decide +kernel⟩
theorem ry_LK_init : Ry yLK_init 0 := ⟨⟨by decide, by decide⟩, by decide +kernel⟩
theorem ry_TR_init : Ry yTR_init 0 := ⟨⟨by decide, by decide⟩, by decide +kernel⟩
theorem ry_BK_init : Ry yBK_init 0 := ⟨⟨by decide, by decide⟩, by decide +kernel⟩
theorem ry_BK_forget : Ry yBK_forget 0 := ⟨⟨by decide, by decide⟩, by decide +kernel⟩
theorem ry_AR_fill : Ry yAR_fill 2 := ⟨⟨by decide, by decide⟩, by decide +kernel⟩
theorem ry_RW_add : Ry yRW_add 4 := ⟨⟨by decide, by decide⟩, by decide +kernel⟩
theorem ry_RW_isThread : Ry yRW_isThread 1 := ⟨⟨by decide, by decide⟩, by decide +kernel⟩
theorem ry_PG_isFull : Ry yPG_isFull 0 := ⟨⟨by decide, by decide⟩, by decide +kernel⟩
theorem ry_RW_isNamed : Ry yRW_isNamed 2 := ⟨⟨by decide, by decide⟩, by decide +kernel⟩
theorem ry_RW_isVariable : Ry yRW_isVariable 1 := ⟨⟨by decide, by decide⟩, by decide +kernel⟩
theorem ry_PG_append : Ry yPG_append 3 := ⟨⟨by decide, by decide⟩, by decide +kernel⟩
theorem ry_RW_clear : Ry yRW_clear 0 := ⟨⟨by decide, by decide⟩, by decide +kernel⟩
theorem ry_PG_forget : Ry yPG_forget 0 := ⟨⟨by decide, by decide⟩, by decide +kernel⟩
theorem ry_WK_forget : Ry yWK_forget 0 := ⟨⟨by decide, by decide⟩, by decide +kernel⟩
theorem ry_CK_forget : Ry yCK_forget 0 := ⟨⟨by decide, by decide⟩, by decide +kernel⟩
theorem ry_LK_forget : Ry yLK_forget 0 := ⟨⟨by decide, by decide⟩, by decide +kernel⟩
theorem ry_TR_forget : Ry yTR_forget 0 := ⟨⟨by decide, by decide⟩, by decide +kernel⟩
theorem ry_RW_state : Ry yRW_state 1 := ⟨⟨by decide, by decide⟩, by decide +kernel⟩
theorem ry_RW_holder : Ry yRW_holder 1 := ⟨⟨by decide, by decide⟩, by decide +kernel⟩
theorem ry_RW_events : Ry yRW_events 0 := ⟨⟨by decide, by decide⟩, by decide +kernel⟩
theorem ry_RW_event : Ry yRW_event 1 := ⟨⟨by decide, by decide⟩, by decide +kernel⟩
theorem ry_TR_has : Ry yTR_has 1 := ⟨⟨by decide, by decide⟩, by decide +kernel⟩
theorem ry_RW_before : Ry yRW_before 2 := ⟨⟨by decide, by decide⟩, by decide +kernel⟩
theorem ry_TR_isOrdered : Ry yTR_isOrdered 2 := ⟨⟨by decide, by decide⟩, by decide +kernel⟩
theorem ry_TR_threadOf : Ry yTR_threadOf 1 := ⟨⟨by decide, by decide⟩, by decide +kernel⟩
theorem ry_RW_race : Ry yRW_race 1 := ⟨⟨by decide, by decide⟩, by decide +kernel⟩
theorem ry_RW_ownBook : Ry yRW_ownBook 0 := ⟨⟨by decide, by decide⟩, by decide +kernel⟩
theorem ry_RW_bookOf : Ry yRW_bookOf 1 := ⟨⟨by decide, by decide⟩, by decide +kernel⟩
theorem ry_RW_partner : Ry yRW_partner 1 := ⟨⟨by decide, by decide⟩, by decide +kernel⟩
theorem ry_RW_races : Ry yRW_races 0 := ⟨⟨by decide, by decide⟩, by decide +kernel⟩
theorem ry_BK_placesWithin : Ry yBK_placesWithin 1 := ⟨⟨by decide, by decide⟩, by decide +kernel⟩
theorem ry_IN_bitCount : Ry yIN_bitCount 1 := ⟨⟨by decide, by decide⟩, by decide +kernel⟩
theorem ry_RW_again : Ry yRW_again 2 := ⟨⟨by decide, by decide⟩, by decide +kernel⟩
theorem ry_LW_start : Ry yLW_start 3 := ⟨⟨by decide, by decide⟩, by decide +kernel⟩
theorem ry_RW_start : Ry yRW_start 1 := ⟨⟨by decide, by decide⟩, by decide +kernel⟩
theorem ry_RW_areBad : Ry yRW_areBad 0 := ⟨⟨by decide, by decide⟩, by decide +kernel⟩
theorem ry_PG_isBad : Ry yPG_isBad 1 := ⟨⟨by decide, by decide⟩, by decide +kernel⟩
theorem ry_RW_instructions : Ry yRW_instructions 0 := ⟨⟨by decide, by decide⟩, by decide +kernel⟩
theorem ry_LW_step : Ry yLW_step 3 := ⟨⟨by decide, by decide⟩, by decide +kernel⟩
theorem ry_RW_step : Ry yRW_step 1 := ⟨⟨by decide, by decide⟩, by decide +kernel⟩
theorem ry_RW_isEvent : Ry yRW_isEvent 1 := ⟨⟨by decide, by decide⟩, by decide +kernel⟩
theorem ry_RW_doQuietly : Ry yRW_doQuietly 3 := ⟨⟨by decide, by decide⟩, by decide +kernel⟩
theorem ry_WK_goTo : Ry yWK_goTo 2 := ⟨⟨by decide, by decide⟩, by decide +kernel⟩
theorem ry_RW_isInfeasible : Ry yRW_isInfeasible 3 := ⟨⟨by decide, by decide⟩, by decide +kernel⟩
theorem ry_LK_isHeldBy : Ry yLK_isHeldBy 1 := ⟨⟨by decide, by decide⟩, by decide +kernel⟩
theorem ry_TR_isFull : Ry yTR_isFull 0 := ⟨⟨by decide, by decide⟩, by decide +kernel⟩
theorem ry_RW_mustWait : Ry yRW_mustWait 3 := ⟨⟨by decide, by decide⟩, by decide +kernel⟩
theorem ry_RW_doEvent : Ry yRW_doEvent 3 := ⟨⟨by decide, by decide⟩, by decide +kernel⟩
theorem ry_RW_isArrayAccess : Ry yRW_isArrayAccess 1 := ⟨⟨by decide, by decide⟩, by decide +kernel⟩
theorem ry_CK_tick : Ry yCK_tick 1 := ⟨⟨by decide, by decide⟩, by decide +kernel⟩
theorem ry_RW_synchronise : Ry yRW_synchronise 3 := ⟨⟨by decide, by decide⟩, by decide +kernel⟩
theorem ry_LK_take : Ry yLK_take 2 := ⟨⟨by decide, by decide⟩, by decide +kernel⟩
theorem ry_CK_learn : Ry yCK_learn 1 := ⟨⟨by decide, by decide⟩, by decide +kernel⟩
theorem ry_LK_letGo : Ry yLK_letGo 1 := ⟨⟨by decide, by decide⟩, by decide +kernel⟩
theorem ry_WK_begin : Ry yWK_begin 2 := ⟨⟨by decide, by decide⟩, by decide +kernel⟩
theorem ry_TR_append : Ry yTR_append 2 := ⟨⟨by decide, by decide⟩, by decide +kernel⟩
theorem ry_RW_isAccess : Ry yRW_isAccess 1 := ⟨⟨by decide, by decide⟩, by decide +kernel⟩
theorem ry_RW_isWrite : Ry yRW_isWrite 1 := ⟨⟨by decide, by decide⟩, by decide +kernel⟩
theorem ry_BK_enter : Ry yBK_enter 4 := ⟨⟨by decide, by decide⟩, by decide +kernel⟩
theorem ry_BK_rivalOf : Ry yBK_rivalOf 4 := ⟨⟨by decide, by decide⟩, by decide +kernel⟩
theorem ry_BK_looseRead : Ry yBK_looseRead 3 := ⟨⟨by decide, by decide⟩, by decide +kernel⟩
theorem ry_MD_init : Ry yMD_init 0 := ⟨⟨by decide, by decide⟩, by decide +kernel⟩
theorem ry_MD_clear : Ry yMD_clear 0 := ⟨⟨by decide, by decide⟩, by decide +kernel⟩
theorem ry_MD_thrown : Ry yMD_thrown 0 := ⟨⟨by decide, by decide⟩, by decide +kernel⟩
theorem ry_MD_add : Ry yMD_add 4 := ⟨⟨by decide, by decide⟩, by decide +kernel⟩
theorem ry_MD_within : Ry yMD_within 2 := ⟨⟨by decide, by decide⟩, by decide +kernel⟩
theorem ry_MD_names : Ry yMD_names 2 := ⟨⟨by decide, by decide⟩, by decide +kernel⟩
theorem ry_MD_start : Ry yMD_start 1 := ⟨⟨by decide, by decide⟩, by decide +kernel⟩
theorem ry_MD_raise : Ry yMD_raise 1 := ⟨⟨by decide, by decide⟩, by decide +kernel⟩
theorem ry_MD_isBad : Ry yMD_isBad 0 := ⟨⟨by decide, by decide⟩, by decide +kernel⟩
theorem ry_MD_step : Ry yMD_step 1 := ⟨⟨by decide, by decide⟩, by decide +kernel⟩
theorem ry_MD_plain : Ry yMD_plain 2 := ⟨⟨by decide, by decide⟩, by decide +kernel⟩
theorem ry_MD_go : Ry yMD_go 2 := ⟨⟨by decide, by decide⟩, by decide +kernel⟩
theorem ry_MD_note : Ry yMD_note 3 := ⟨⟨by decide, by decide⟩, by decide +kernel⟩
theorem ry_MD_leads : Ry yMD_leads 2 := ⟨⟨by decide, by decide⟩, by decide +kernel⟩
theorem ry_MD_join : Ry yMD_join 2 := ⟨⟨by decide, by decide⟩, by decide +kernel⟩
theorem ry_MD_spot : Ry yMD_spot 2 := ⟨⟨by decide, by decide⟩, by decide +kernel⟩
theorem ry_MD_meets : Ry yMD_meets 2 := ⟨⟨by decide, by decide⟩, by decide +kernel⟩
theorem ry_MD_raceWith : Ry yMD_raceWith 3 := ⟨⟨by decide, by decide⟩, by decide +kernel⟩
theorem ry_MD_isAccess : Ry yMD_isAccess 1 := ⟨⟨by decide, by decide⟩, by decide +kernel⟩
theorem ry_MD_isWrite : Ry yMD_isWrite 1 := ⟨⟨by decide, by decide⟩, by decide +kernel⟩
theorem ry_MD_isBefore : Ry yMD_isBefore 2 := ⟨⟨by decide, by decide⟩, by decide +kernel⟩
theorem ry_MD_partnerOf : Ry yMD_partnerOf 2 := ⟨⟨by decide, by decide⟩, by decide +kernel⟩
theorem ry_MD_state : Ry yMD_state 1 := ⟨⟨by decide, by decide⟩, by decide +kernel⟩
theorem ry_MD_holder : Ry yMD_holder 1 := ⟨⟨by decide, by decide⟩, by decide +kernel⟩
theorem ry_MD_events : Ry yMD_events 0 := ⟨⟨by decide, by decide⟩, by decide +kernel⟩
theorem ry_MD_event : Ry yMD_event 1 := ⟨⟨by decide, by decide⟩, by decide +kernel⟩
theorem ry_MD_before : Ry yMD_before 2 := ⟨⟨by decide, by decide⟩, by decide +kernel⟩
theorem ry_MD_race : Ry yMD_race 1 := ⟨⟨by decide, by decide⟩, by decide +kernel⟩
theorem ry_MD_partner : Ry yMD_partner 1 := ⟨⟨by decide, by decide⟩, by decide +kernel⟩
theorem ry_MD_races : Ry yMD_races 0 := ⟨⟨by decide, by decide⟩, by decide +kernel⟩
theorem ry_MD_again : Ry yMD_again 2 := ⟨⟨by decide, by decide⟩, by decide +kernel⟩
end
section
theorem in_CK : ∀ w ∈ u_ws R_CK T_CK 1, w ∈ WS := by
  intro w h
  obtain ⟨k, hk, rfl⟩ := List.mem_map.mp h
  have hk := List.mem_range.mp hk
  match k, hk with
  | 0, _ => exact w_63
  | (k + 1), h => exact absurd h (by omega)
theorem in_LK : ∀ w ∈ u_ws R_LK T_LK 3, w ∈ WS := by
  intro w h
  obtain ⟨k, hk, rfl⟩ := List.mem_map.mp h
  have hk := List.mem_range.mp hk
  match k, hk with
  | 0, _ => exact w_90
  | 1, _ => exact w_91
  | 2, _ => exact w_92
  | (k + 3), h => exact absurd h (by omega)
theorem in_PG : ∀ w ∈ u_ws R_PG T_PG 4, w ∈ WS := by
  intro w h
  obtain ⟨k, hk, rfl⟩ := List.mem_map.mp h
  have hk := List.mem_range.mp hk
  match k, hk with
  | 0, _ => exact w_45
  | 1, _ => exact w_46
  | 2, _ => exact w_47
  | 3, _ => exact w_48
  | (k + 4), h => exact absurd h (by omega)
theorem in_BK : ∀ w ∈ u_ws R_BK T_BK 4, w ∈ WS := by
  intro w h
  obtain ⟨k, hk, rfl⟩ := List.mem_map.mp h
  have hk := List.mem_range.mp hk
  match k, hk with
  | 0, _ => exact w_129
  | 1, _ => exact w_130
  | 2, _ => exact w_131
  | 3, _ => exact w_132
  | (k + 4), h => exact absurd h (by omega)
theorem in_TR : ∀ w ∈ u_ws R_TR T_TR 3, w ∈ WS := by
  intro w h
  obtain ⟨k, hk, rfl⟩ := List.mem_map.mp h
  have hk := List.mem_range.mp hk
  match k, hk with
  | 0, _ => exact w_107
  | 1, _ => exact w_108
  | 2, _ => exact w_109
  | (k + 3), h => exact absurd h (by omega)
theorem in_WK : ∀ w ∈ u_ws R_WK T_WK 4, w ∈ WS := by
  intro w h
  obtain ⟨k, hk, rfl⟩ := List.mem_map.mp h
  have hk := List.mem_range.mp hk
  match k, hk with
  | 0, _ => exact w_72
  | 1, _ => exact w_73
  | 2, _ => exact w_74
  | 3, _ => exact w_75
  | (k + 4), h => exact absurd h (by omega)
theorem in_RW : ∀ w ∈ u_ws R_RW T_RW 9, w ∈ WS := by
  intro w h
  obtain ⟨k, hk, rfl⟩ := List.mem_map.mp h
  have hk := List.mem_range.mp hk
  match k, hk with
  | 0, _ => exact w_142
  | 1, _ => exact w_143
  | 2, _ => exact w_144
  | 3, _ => exact w_145
  | 4, _ => exact w_146
  | 5, _ => exact w_147
  | 6, _ => exact w_148
  | 7, _ => exact w_149
  | 8, _ => exact w_150
  | (k + 9), h => exact absurd h (by omega)
theorem in_MD : ∀ w ∈ u_ws R_MD T_MD 20, w ∈ WS := by
  intro w h
  obtain ⟨k, hk, rfl⟩ := List.mem_map.mp h
  have hk := List.mem_range.mp hk
  match k, hk with
  | 0, _ => exact w_519
  | 1, _ => exact w_520
  | 2, _ => exact w_521
  | 3, _ => exact w_522
  | 4, _ => exact w_523
  | 5, _ => exact w_524
  | 6, _ => exact w_525
  | 7, _ => exact w_526
  | 8, _ => exact w_527
  | 9, _ => exact w_528
  | 10, _ => exact w_529
  | 11, _ => exact w_530
  | 12, _ => exact w_531
  | 13, _ => exact w_532
  | 14, _ => exact w_533
  | 15, _ => exact w_534
  | 16, _ => exact w_535
  | 17, _ => exact w_536
  | 18, _ => exact w_537
  | 19, _ => exact w_538
  | (k + 20), h => exact absurd h (by omega)
section FR
variable {p : Program} {l : Launch} {e : Env} {R : Room} {s : State} {m : MethodId} {args : Array Value} {below : List Frame} {meth : Method} {c : Code} {H : Heap} {locs : List Loc} {cells slots : Nat} {Q : State → Prop}
variable {cc : ByteArray} {nL pc n : Nat} {D : va_G} {tc : Nat → ClassId} {ad : Nat → Nat} {E : Nat → va_E} {A : Nat → Prop} {H0 : Heap} {ls : Array Slot} {rest : List Value} {k : Nat} {fs : List Value} {v : Value}
theorem g_PG_9 (X : Cx p s m args c cc nL R_PG D tc) (hP : va_P D vwCl (wW n ad E) H) (hk : k < n) (hE : E k = .inr (2, fs)) (hv : fs[0]? = some v) (hdg : decode cc pc = .ok (.getfield 9, 3)) (kk : W p l e R s m args below meth c H locs cells slots Q (F0 m (pc + 3) ls (v :: rest))) : W p l e R s m args below meth c H locs cells slots Q (F0 m pc ls (.ref (ad k) :: rest)) :=
  q_get (T := T_PG) X hP hk hE rfl in_PG 0 (by decide) w_37 rfl hv hdg kk
theorem p_PG_9 (X : Cx p s m args c cc nL R_PG D tc) (hin : meth.name = "<init>") (hD : va_D A (wW n ad E)) (hP : va_P D vwCl (wW n ad E) H) (hS : va_S A H0 H locs) (hk : k < n) (hE : E k = .inr (2, fs)) (hn : narrow (.array .int) v = v) (hfit : fits (.array .int) v = true) (hl : 0 < fs.length) (hdg : decode cc pc = .ok (.putfield 9, 3))
    (kk : ∀ (H1 : Heap) (locs1 : List Loc), va_D A (wW n ad (va_up E k (.inr (2, fs.set 0 v)))) → va_P D vwCl (wW n ad (va_up E k (.inr (2, fs.set 0 v)))) H1 → va_S A H0 H1 locs1 → W p l e R s m args below meth c H1 locs1 cells slots Q (F0 m (pc + 3) ls rest)) : W p l e R s m args below meth c H locs cells slots Q (F0 m pc ls (v :: .ref (ad k) :: rest)) :=
  q_putF (T := T_PG) ty_PG X hD hP hS hk hE rfl in_PG tok_PG nm_PG 0 (by decide) w_37 rfl rfl hin rfl (by decide +kernel) hn hfit hl hdg kk
theorem g_RW_105 (X : Cx p s m args c cc nL R_RW D tc) (hP : va_P D vwCl (wW n ad E) H) (hk : k < n) (hE : E k = .inr (2, fs)) (hv : fs[0]? = some v) (hdg : decode cc pc = .ok (.getfield 105, 3)) (kk : W p l e R s m args below meth c H locs cells slots Q (F0 m (pc + 3) ls (v :: rest))) : W p l e R s m args below meth c H locs cells slots Q (F0 m pc ls (.ref (ad k) :: rest)) :=
  q_getN (T := T_PG) X hP hk hE rfl in_PG 0 (by decide) w_38 rfl hv hdg kk
theorem g_PG_15 (X : Cx p s m args c cc nL R_PG D tc) (hP : va_P D vwCl (wW n ad E) H) (hk : k < n) (hE : E k = .inr (2, fs)) (hv : fs[1]? = some v) (hdg : decode cc pc = .ok (.getfield 15, 3)) (kk : W p l e R s m args below meth c H locs cells slots Q (F0 m (pc + 3) ls (v :: rest))) : W p l e R s m args below meth c H locs cells slots Q (F0 m pc ls (.ref (ad k) :: rest)) :=
  q_get (T := T_PG) X hP hk hE rfl in_PG 1 (by decide) w_39 rfl hv hdg kk
theorem p_PG_15 (X : Cx p s m args c cc nL R_PG D tc) (hin : meth.name = "<init>") (hD : va_D A (wW n ad E)) (hP : va_P D vwCl (wW n ad E) H) (hS : va_S A H0 H locs) (hk : k < n) (hE : E k = .inr (2, fs)) (hn : narrow (.array .int) v = v) (hfit : fits (.array .int) v = true) (hl : 1 < fs.length) (hdg : decode cc pc = .ok (.putfield 15, 3))
    (kk : ∀ (H1 : Heap) (locs1 : List Loc), va_D A (wW n ad (va_up E k (.inr (2, fs.set 1 v)))) → va_P D vwCl (wW n ad (va_up E k (.inr (2, fs.set 1 v)))) H1 → va_S A H0 H1 locs1 → W p l e R s m args below meth c H1 locs1 cells slots Q (F0 m (pc + 3) ls rest)) : W p l e R s m args below meth c H locs cells slots Q (F0 m pc ls (v :: .ref (ad k) :: rest)) :=
  q_putF (T := T_PG) ty_PG X hD hP hS hk hE rfl in_PG tok_PG nm_PG 1 (by decide) w_39 rfl rfl hin rfl (by decide +kernel) hn hfit hl hdg kk
theorem g_RW_112 (X : Cx p s m args c cc nL R_RW D tc) (hP : va_P D vwCl (wW n ad E) H) (hk : k < n) (hE : E k = .inr (2, fs)) (hv : fs[1]? = some v) (hdg : decode cc pc = .ok (.getfield 112, 3)) (kk : W p l e R s m args below meth c H locs cells slots Q (F0 m (pc + 3) ls (v :: rest))) : W p l e R s m args below meth c H locs cells slots Q (F0 m pc ls (.ref (ad k) :: rest)) :=
  q_getN (T := T_PG) X hP hk hE rfl in_PG 1 (by decide) w_40 rfl hv hdg kk
theorem g_PG_18 (X : Cx p s m args c cc nL R_PG D tc) (hP : va_P D vwCl (wW n ad E) H) (hk : k < n) (hE : E k = .inr (2, fs)) (hv : fs[2]? = some v) (hdg : decode cc pc = .ok (.getfield 18, 3)) (kk : W p l e R s m args below meth c H locs cells slots Q (F0 m (pc + 3) ls (v :: rest))) : W p l e R s m args below meth c H locs cells slots Q (F0 m pc ls (.ref (ad k) :: rest)) :=
  q_get (T := T_PG) X hP hk hE rfl in_PG 2 (by decide) w_41 rfl hv hdg kk
theorem p_PG_18 (X : Cx p s m args c cc nL R_PG D tc) (hin : meth.name = "<init>") (hD : va_D A (wW n ad E)) (hP : va_P D vwCl (wW n ad E) H) (hS : va_S A H0 H locs) (hk : k < n) (hE : E k = .inr (2, fs)) (hn : narrow (.array .int) v = v) (hfit : fits (.array .int) v = true) (hl : 2 < fs.length) (hdg : decode cc pc = .ok (.putfield 18, 3))
    (kk : ∀ (H1 : Heap) (locs1 : List Loc), va_D A (wW n ad (va_up E k (.inr (2, fs.set 2 v)))) → va_P D vwCl (wW n ad (va_up E k (.inr (2, fs.set 2 v)))) H1 → va_S A H0 H1 locs1 → W p l e R s m args below meth c H1 locs1 cells slots Q (F0 m (pc + 3) ls rest)) : W p l e R s m args below meth c H locs cells slots Q (F0 m pc ls (v :: .ref (ad k) :: rest)) :=
  q_putF (T := T_PG) ty_PG X hD hP hS hk hE rfl in_PG tok_PG nm_PG 2 (by decide) w_41 rfl rfl hin rfl (by decide +kernel) hn hfit hl hdg kk
theorem g_RW_202 (X : Cx p s m args c cc nL R_RW D tc) (hP : va_P D vwCl (wW n ad E) H) (hk : k < n) (hE : E k = .inr (2, fs)) (hv : fs[2]? = some v) (hdg : decode cc pc = .ok (.getfield 202, 3)) (kk : W p l e R s m args below meth c H locs cells slots Q (F0 m (pc + 3) ls (v :: rest))) : W p l e R s m args below meth c H locs cells slots Q (F0 m pc ls (.ref (ad k) :: rest)) :=
  q_getN (T := T_PG) X hP hk hE rfl in_PG 2 (by decide) w_42 rfl hv hdg kk
theorem g_PG_21 (X : Cx p s m args c cc nL R_PG D tc) (hP : va_P D vwCl (wW n ad E) H) (hk : k < n) (hE : E k = .inr (2, fs)) (hv : fs[3]? = some v) (hdg : decode cc pc = .ok (.getfield 21, 3)) (kk : W p l e R s m args below meth c H locs cells slots Q (F0 m (pc + 3) ls (v :: rest))) : W p l e R s m args below meth c H locs cells slots Q (F0 m pc ls (.ref (ad k) :: rest)) :=
  q_get (T := T_PG) X hP hk hE rfl in_PG 3 (by decide) w_43 rfl hv hdg kk
theorem p_PG_21 (X : Cx p s m args c cc nL R_PG D tc) (hD : va_D A (wW n ad E)) (hP : va_P D vwCl (wW n ad E) H) (hS : va_S A H0 H locs) (hk : k < n) (hE : E k = .inr (2, fs)) (hn : narrow (.int) v = v) (hfit : fits (.int) v = true) (hl : 3 < fs.length) (hdg : decode cc pc = .ok (.putfield 21, 3))
    (kk : ∀ (H1 : Heap) (locs1 : List Loc), va_D A (wW n ad (va_up E k (.inr (2, fs.set 3 v)))) → va_P D vwCl (wW n ad (va_up E k (.inr (2, fs.set 3 v)))) H1 → va_S A H0 H1 locs1 → W p l e R s m args below meth c H1 locs1 cells slots Q (F0 m (pc + 3) ls rest)) : W p l e R s m args below meth c H locs cells slots Q (F0 m pc ls (v :: .ref (ad k) :: rest)) :=
  q_put (T := T_PG) ty_PG X hD hP hS hk hE rfl in_PG tok_PG nm_PG 3 (by decide) w_43 rfl rfl (by decide +kernel) hn hfit hl hdg kk
theorem g_RW_196 (X : Cx p s m args c cc nL R_RW D tc) (hP : va_P D vwCl (wW n ad E) H) (hk : k < n) (hE : E k = .inr (2, fs)) (hv : fs[3]? = some v) (hdg : decode cc pc = .ok (.getfield 196, 3)) (kk : W p l e R s m args below meth c H locs cells slots Q (F0 m (pc + 3) ls (v :: rest))) : W p l e R s m args below meth c H locs cells slots Q (F0 m pc ls (.ref (ad k) :: rest)) :=
  q_getN (T := T_PG) X hP hk hE rfl in_PG 3 (by decide) w_44 rfl hv hdg kk
theorem p_RW_196 (X : Cx p s m args c cc nL R_RW D tc) (hD : va_D A (wW n ad E)) (hP : va_P D vwCl (wW n ad E) H) (hS : va_S A H0 H locs) (hk : k < n) (hE : E k = .inr (2, fs)) (hn : narrow (.int) v = v) (hfit : fits (.int) v = true) (hl : 3 < fs.length) (hdg : decode cc pc = .ok (.putfield 196, 3))
    (kk : ∀ (H1 : Heap) (locs1 : List Loc), va_D A (wW n ad (va_up E k (.inr (2, fs.set 3 v)))) → va_P D vwCl (wW n ad (va_up E k (.inr (2, fs.set 3 v)))) H1 → va_S A H0 H1 locs1 → W p l e R s m args below meth c H1 locs1 cells slots Q (F0 m (pc + 3) ls rest)) : W p l e R s m args below meth c H locs cells slots Q (F0 m pc ls (v :: .ref (ad k) :: rest)) :=
  q_putN (T := T_PG) ty_PG X hD hP hS hk hE rfl in_PG tok_PG nm_PG 3 (by decide) w_44 rfl rfl (by decide +kernel) hn hfit hl hdg kk
theorem g_CK_9 (X : Cx p s m args c cc nL R_CK D tc) (hP : va_P D vwCl (wW n ad E) H) (hk : k < n) (hE : E k = .inr (0, fs)) (hv : fs[0]? = some v) (hdg : decode cc pc = .ok (.getfield 9, 3)) (kk : W p l e R s m args below meth c H locs cells slots Q (F0 m (pc + 3) ls (v :: rest))) : W p l e R s m args below meth c H locs cells slots Q (F0 m pc ls (.ref (ad k) :: rest)) :=
  q_get (T := T_CK) X hP hk hE rfl in_CK 0 (by decide) w_61 rfl hv hdg kk
theorem p_CK_9 (X : Cx p s m args c cc nL R_CK D tc) (hin : meth.name = "<init>") (hD : va_D A (wW n ad E)) (hP : va_P D vwCl (wW n ad E) H) (hS : va_S A H0 H locs) (hk : k < n) (hE : E k = .inr (0, fs)) (hn : narrow (.array .int) v = v) (hfit : fits (.array .int) v = true) (hl : 0 < fs.length) (hdg : decode cc pc = .ok (.putfield 9, 3))
    (kk : ∀ (H1 : Heap) (locs1 : List Loc), va_D A (wW n ad (va_up E k (.inr (0, fs.set 0 v)))) → va_P D vwCl (wW n ad (va_up E k (.inr (0, fs.set 0 v)))) H1 → va_S A H0 H1 locs1 → W p l e R s m args below meth c H1 locs1 cells slots Q (F0 m (pc + 3) ls rest)) : W p l e R s m args below meth c H locs cells slots Q (F0 m pc ls (v :: .ref (ad k) :: rest)) :=
  q_putF (T := T_CK) ty_CK X hD hP hS hk hE rfl in_CK tok_CK nm_CK 0 (by decide) w_61 rfl rfl hin rfl (by decide +kernel) hn hfit hl hdg kk
theorem g_TR_22 (X : Cx p s m args c cc nL R_TR D tc) (hP : va_P D vwCl (wW n ad E) H) (hk : k < n) (hE : E k = .inr (0, fs)) (hv : fs[0]? = some v) (hdg : decode cc pc = .ok (.getfield 22, 3)) (kk : W p l e R s m args below meth c H locs cells slots Q (F0 m (pc + 3) ls (v :: rest))) : W p l e R s m args below meth c H locs cells slots Q (F0 m pc ls (.ref (ad k) :: rest)) :=
  q_getN (T := T_CK) X hP hk hE rfl in_CK 0 (by decide) w_62 rfl hv hdg kk
theorem g_WK_12 (X : Cx p s m args c cc nL R_WK D tc) (hP : va_P D vwCl (wW n ad E) H) (hk : k < n) (hE : E k = .inr (5, fs)) (hv : fs[0]? = some v) (hdg : decode cc pc = .ok (.getfield 12, 3)) (kk : W p l e R s m args below meth c H locs cells slots Q (F0 m (pc + 3) ls (v :: rest))) : W p l e R s m args below meth c H locs cells slots Q (F0 m pc ls (.ref (ad k) :: rest)) :=
  q_get (T := T_WK) X hP hk hE rfl in_WK 0 (by decide) w_64 rfl hv hdg kk
theorem p_WK_12 (X : Cx p s m args c cc nL R_WK D tc) (hin : meth.name = "<init>") (hD : va_D A (wW n ad E)) (hP : va_P D vwCl (wW n ad E) H) (hS : va_S A H0 H locs) (hk : k < n) (hE : E k = .inr (5, fs)) (hn : narrow (.object "RaceWatch$Clock") v = v) (hfit : fits (.object "RaceWatch$Clock") v = true) (hl : 0 < fs.length) (hdg : decode cc pc = .ok (.putfield 12, 3))
    (kk : ∀ (H1 : Heap) (locs1 : List Loc), va_D A (wW n ad (va_up E k (.inr (5, fs.set 0 v)))) → va_P D vwCl (wW n ad (va_up E k (.inr (5, fs.set 0 v)))) H1 → va_S A H0 H1 locs1 → W p l e R s m args below meth c H1 locs1 cells slots Q (F0 m (pc + 3) ls rest)) : W p l e R s m args below meth c H locs cells slots Q (F0 m pc ls (v :: .ref (ad k) :: rest)) :=
  q_putF (T := T_WK) ty_WK X hD hP hS hk hE rfl in_WK tok_WK nm_WK 0 (by decide) w_64 rfl rfl hin rfl (by decide +kernel) hn hfit hl hdg kk
theorem g_RW_214 (X : Cx p s m args c cc nL R_RW D tc) (hP : va_P D vwCl (wW n ad E) H) (hk : k < n) (hE : E k = .inr (5, fs)) (hv : fs[0]? = some v) (hdg : decode cc pc = .ok (.getfield 214, 3)) (kk : W p l e R s m args below meth c H locs cells slots Q (F0 m (pc + 3) ls (v :: rest))) : W p l e R s m args below meth c H locs cells slots Q (F0 m pc ls (.ref (ad k) :: rest)) :=
  q_getN (T := T_WK) X hP hk hE rfl in_WK 0 (by decide) w_65 rfl hv hdg kk
theorem g_WK_18 (X : Cx p s m args c cc nL R_WK D tc) (hP : va_P D vwCl (wW n ad E) H) (hk : k < n) (hE : E k = .inr (5, fs)) (hv : fs[1]? = some v) (hdg : decode cc pc = .ok (.getfield 18, 3)) (kk : W p l e R s m args below meth c H locs cells slots Q (F0 m (pc + 3) ls (v :: rest))) : W p l e R s m args below meth c H locs cells slots Q (F0 m pc ls (.ref (ad k) :: rest)) :=
  q_get (T := T_WK) X hP hk hE rfl in_WK 1 (by decide) w_66 rfl hv hdg kk
theorem p_WK_18 (X : Cx p s m args c cc nL R_WK D tc) (hD : va_D A (wW n ad E)) (hP : va_P D vwCl (wW n ad E) H) (hS : va_S A H0 H locs) (hk : k < n) (hE : E k = .inr (5, fs)) (hn : narrow (.int) v = v) (hfit : fits (.int) v = true) (hl : 1 < fs.length) (hdg : decode cc pc = .ok (.putfield 18, 3))
    (kk : ∀ (H1 : Heap) (locs1 : List Loc), va_D A (wW n ad (va_up E k (.inr (5, fs.set 1 v)))) → va_P D vwCl (wW n ad (va_up E k (.inr (5, fs.set 1 v)))) H1 → va_S A H0 H1 locs1 → W p l e R s m args below meth c H1 locs1 cells slots Q (F0 m (pc + 3) ls rest)) : W p l e R s m args below meth c H locs cells slots Q (F0 m pc ls (v :: .ref (ad k) :: rest)) :=
  q_put (T := T_WK) ty_WK X hD hP hS hk hE rfl in_WK tok_WK nm_WK 1 (by decide) w_66 rfl rfl (by decide +kernel) hn hfit hl hdg kk
theorem g_RW_94 (X : Cx p s m args c cc nL R_RW D tc) (hP : va_P D vwCl (wW n ad E) H) (hk : k < n) (hE : E k = .inr (5, fs)) (hv : fs[1]? = some v) (hdg : decode cc pc = .ok (.getfield 94, 3)) (kk : W p l e R s m args below meth c H locs cells slots Q (F0 m (pc + 3) ls (v :: rest))) : W p l e R s m args below meth c H locs cells slots Q (F0 m pc ls (.ref (ad k) :: rest)) :=
  q_getN (T := T_WK) X hP hk hE rfl in_WK 1 (by decide) w_67 rfl hv hdg kk
theorem p_RW_94 (X : Cx p s m args c cc nL R_RW D tc) (hD : va_D A (wW n ad E)) (hP : va_P D vwCl (wW n ad E) H) (hS : va_S A H0 H locs) (hk : k < n) (hE : E k = .inr (5, fs)) (hn : narrow (.int) v = v) (hfit : fits (.int) v = true) (hl : 1 < fs.length) (hdg : decode cc pc = .ok (.putfield 94, 3))
    (kk : ∀ (H1 : Heap) (locs1 : List Loc), va_D A (wW n ad (va_up E k (.inr (5, fs.set 1 v)))) → va_P D vwCl (wW n ad (va_up E k (.inr (5, fs.set 1 v)))) H1 → va_S A H0 H1 locs1 → W p l e R s m args below meth c H1 locs1 cells slots Q (F0 m (pc + 3) ls rest)) : W p l e R s m args below meth c H locs cells slots Q (F0 m pc ls (v :: .ref (ad k) :: rest)) :=
  q_putN (T := T_WK) ty_WK X hD hP hS hk hE rfl in_WK tok_WK nm_WK 1 (by decide) w_67 rfl rfl (by decide +kernel) hn hfit hl hdg kk
theorem g_WK_22 (X : Cx p s m args c cc nL R_WK D tc) (hP : va_P D vwCl (wW n ad E) H) (hk : k < n) (hE : E k = .inr (5, fs)) (hv : fs[2]? = some v) (hdg : decode cc pc = .ok (.getfield 22, 3)) (kk : W p l e R s m args below meth c H locs cells slots Q (F0 m (pc + 3) ls (v :: rest))) : W p l e R s m args below meth c H locs cells slots Q (F0 m pc ls (.ref (ad k) :: rest)) :=
  q_get (T := T_WK) X hP hk hE rfl in_WK 2 (by decide) w_68 rfl hv hdg kk
theorem p_WK_22 (X : Cx p s m args c cc nL R_WK D tc) (hD : va_D A (wW n ad E)) (hP : va_P D vwCl (wW n ad E) H) (hS : va_S A H0 H locs) (hk : k < n) (hE : E k = .inr (5, fs)) (hn : narrow (.int) v = v) (hfit : fits (.int) v = true) (hl : 2 < fs.length) (hdg : decode cc pc = .ok (.putfield 22, 3))
    (kk : ∀ (H1 : Heap) (locs1 : List Loc), va_D A (wW n ad (va_up E k (.inr (5, fs.set 2 v)))) → va_P D vwCl (wW n ad (va_up E k (.inr (5, fs.set 2 v)))) H1 → va_S A H0 H1 locs1 → W p l e R s m args below meth c H1 locs1 cells slots Q (F0 m (pc + 3) ls rest)) : W p l e R s m args below meth c H locs cells slots Q (F0 m pc ls (v :: .ref (ad k) :: rest)) :=
  q_put (T := T_WK) ty_WK X hD hP hS hk hE rfl in_WK tok_WK nm_WK 2 (by decide) w_68 rfl rfl (by decide +kernel) hn hfit hl hdg kk
theorem g_RW_109 (X : Cx p s m args c cc nL R_RW D tc) (hP : va_P D vwCl (wW n ad E) H) (hk : k < n) (hE : E k = .inr (5, fs)) (hv : fs[2]? = some v) (hdg : decode cc pc = .ok (.getfield 109, 3)) (kk : W p l e R s m args below meth c H locs cells slots Q (F0 m (pc + 3) ls (v :: rest))) : W p l e R s m args below meth c H locs cells slots Q (F0 m pc ls (.ref (ad k) :: rest)) :=
  q_getN (T := T_WK) X hP hk hE rfl in_WK 2 (by decide) w_69 rfl hv hdg kk
theorem p_RW_109 (X : Cx p s m args c cc nL R_RW D tc) (hD : va_D A (wW n ad E)) (hP : va_P D vwCl (wW n ad E) H) (hS : va_S A H0 H locs) (hk : k < n) (hE : E k = .inr (5, fs)) (hn : narrow (.int) v = v) (hfit : fits (.int) v = true) (hl : 2 < fs.length) (hdg : decode cc pc = .ok (.putfield 109, 3))
    (kk : ∀ (H1 : Heap) (locs1 : List Loc), va_D A (wW n ad (va_up E k (.inr (5, fs.set 2 v)))) → va_P D vwCl (wW n ad (va_up E k (.inr (5, fs.set 2 v)))) H1 → va_S A H0 H1 locs1 → W p l e R s m args below meth c H1 locs1 cells slots Q (F0 m (pc + 3) ls rest)) : W p l e R s m args below meth c H locs cells slots Q (F0 m pc ls (v :: .ref (ad k) :: rest)) :=
  q_putN (T := T_WK) ty_WK X hD hP hS hk hE rfl in_WK tok_WK nm_WK 2 (by decide) w_69 rfl rfl (by decide +kernel) hn hfit hl hdg kk
theorem g_WK_25 (X : Cx p s m args c cc nL R_WK D tc) (hP : va_P D vwCl (wW n ad E) H) (hk : k < n) (hE : E k = .inr (5, fs)) (hv : fs[3]? = some v) (hdg : decode cc pc = .ok (.getfield 25, 3)) (kk : W p l e R s m args below meth c H locs cells slots Q (F0 m (pc + 3) ls (v :: rest))) : W p l e R s m args below meth c H locs cells slots Q (F0 m pc ls (.ref (ad k) :: rest)) :=
  q_get (T := T_WK) X hP hk hE rfl in_WK 3 (by decide) w_70 rfl hv hdg kk
theorem p_WK_25 (X : Cx p s m args c cc nL R_WK D tc) (hD : va_D A (wW n ad E)) (hP : va_P D vwCl (wW n ad E) H) (hS : va_S A H0 H locs) (hk : k < n) (hE : E k = .inr (5, fs)) (hn : narrow (.long) v = v) (hfit : fits (.long) v = true) (hl : 3 < fs.length) (hdg : decode cc pc = .ok (.putfield 25, 3))
    (kk : ∀ (H1 : Heap) (locs1 : List Loc), va_D A (wW n ad (va_up E k (.inr (5, fs.set 3 v)))) → va_P D vwCl (wW n ad (va_up E k (.inr (5, fs.set 3 v)))) H1 → va_S A H0 H1 locs1 → W p l e R s m args below meth c H1 locs1 cells slots Q (F0 m (pc + 3) ls rest)) : W p l e R s m args below meth c H locs cells slots Q (F0 m pc ls (v :: .ref (ad k) :: rest)) :=
  q_put (T := T_WK) ty_WK X hD hP hS hk hE rfl in_WK tok_WK nm_WK 3 (by decide) w_70 rfl rfl (by decide +kernel) hn hfit hl hdg kk
theorem g_RW_142 (X : Cx p s m args c cc nL R_RW D tc) (hP : va_P D vwCl (wW n ad E) H) (hk : k < n) (hE : E k = .inr (5, fs)) (hv : fs[3]? = some v) (hdg : decode cc pc = .ok (.getfield 142, 3)) (kk : W p l e R s m args below meth c H locs cells slots Q (F0 m (pc + 3) ls (v :: rest))) : W p l e R s m args below meth c H locs cells slots Q (F0 m pc ls (.ref (ad k) :: rest)) :=
  q_getN (T := T_WK) X hP hk hE rfl in_WK 3 (by decide) w_71 rfl hv hdg kk
theorem p_RW_142 (X : Cx p s m args c cc nL R_RW D tc) (hD : va_D A (wW n ad E)) (hP : va_P D vwCl (wW n ad E) H) (hS : va_S A H0 H locs) (hk : k < n) (hE : E k = .inr (5, fs)) (hn : narrow (.long) v = v) (hfit : fits (.long) v = true) (hl : 3 < fs.length) (hdg : decode cc pc = .ok (.putfield 142, 3))
    (kk : ∀ (H1 : Heap) (locs1 : List Loc), va_D A (wW n ad (va_up E k (.inr (5, fs.set 3 v)))) → va_P D vwCl (wW n ad (va_up E k (.inr (5, fs.set 3 v)))) H1 → va_S A H0 H1 locs1 → W p l e R s m args below meth c H1 locs1 cells slots Q (F0 m (pc + 3) ls rest)) : W p l e R s m args below meth c H locs cells slots Q (F0 m pc ls (v :: .ref (ad k) :: rest)) :=
  q_putN (T := T_WK) ty_WK X hD hP hS hk hE rfl in_WK tok_WK nm_WK 3 (by decide) w_71 rfl rfl (by decide +kernel) hn hfit hl hdg kk
theorem g_LK_12 (X : Cx p s m args c cc nL R_LK D tc) (hP : va_P D vwCl (wW n ad E) H) (hk : k < n) (hE : E k = .inr (1, fs)) (hv : fs[0]? = some v) (hdg : decode cc pc = .ok (.getfield 12, 3)) (kk : W p l e R s m args below meth c H locs cells slots Q (F0 m (pc + 3) ls (v :: rest))) : W p l e R s m args below meth c H locs cells slots Q (F0 m pc ls (.ref (ad k) :: rest)) :=
  q_get (T := T_LK) X hP hk hE rfl in_LK 0 (by decide) w_85 rfl hv hdg kk
theorem p_LK_12 (X : Cx p s m args c cc nL R_LK D tc) (hin : meth.name = "<init>") (hD : va_D A (wW n ad E)) (hP : va_P D vwCl (wW n ad E) H) (hS : va_S A H0 H locs) (hk : k < n) (hE : E k = .inr (1, fs)) (hn : narrow (.object "RaceWatch$Clock") v = v) (hfit : fits (.object "RaceWatch$Clock") v = true) (hl : 0 < fs.length) (hdg : decode cc pc = .ok (.putfield 12, 3))
    (kk : ∀ (H1 : Heap) (locs1 : List Loc), va_D A (wW n ad (va_up E k (.inr (1, fs.set 0 v)))) → va_P D vwCl (wW n ad (va_up E k (.inr (1, fs.set 0 v)))) H1 → va_S A H0 H1 locs1 → W p l e R s m args below meth c H1 locs1 cells slots Q (F0 m (pc + 3) ls rest)) : W p l e R s m args below meth c H locs cells slots Q (F0 m pc ls (v :: .ref (ad k) :: rest)) :=
  q_putF (T := T_LK) ty_LK X hD hP hS hk hE rfl in_LK tok_LK nm_LK 0 (by decide) w_85 rfl rfl hin rfl (by decide +kernel) hn hfit hl hdg kk
theorem g_LK_18 (X : Cx p s m args c cc nL R_LK D tc) (hP : va_P D vwCl (wW n ad E) H) (hk : k < n) (hE : E k = .inr (1, fs)) (hv : fs[1]? = some v) (hdg : decode cc pc = .ok (.getfield 18, 3)) (kk : W p l e R s m args below meth c H locs cells slots Q (F0 m (pc + 3) ls (v :: rest))) : W p l e R s m args below meth c H locs cells slots Q (F0 m pc ls (.ref (ad k) :: rest)) :=
  q_get (T := T_LK) X hP hk hE rfl in_LK 1 (by decide) w_86 rfl hv hdg kk
theorem p_LK_18 (X : Cx p s m args c cc nL R_LK D tc) (hD : va_D A (wW n ad E)) (hP : va_P D vwCl (wW n ad E) H) (hS : va_S A H0 H locs) (hk : k < n) (hE : E k = .inr (1, fs)) (hn : narrow (.int) v = v) (hfit : fits (.int) v = true) (hl : 1 < fs.length) (hdg : decode cc pc = .ok (.putfield 18, 3))
    (kk : ∀ (H1 : Heap) (locs1 : List Loc), va_D A (wW n ad (va_up E k (.inr (1, fs.set 1 v)))) → va_P D vwCl (wW n ad (va_up E k (.inr (1, fs.set 1 v)))) H1 → va_S A H0 H1 locs1 → W p l e R s m args below meth c H1 locs1 cells slots Q (F0 m (pc + 3) ls rest)) : W p l e R s m args below meth c H locs cells slots Q (F0 m pc ls (v :: .ref (ad k) :: rest)) :=
  q_put (T := T_LK) ty_LK X hD hP hS hk hE rfl in_LK tok_LK nm_LK 1 (by decide) w_86 rfl rfl (by decide +kernel) hn hfit hl hdg kk
theorem g_RW_149 (X : Cx p s m args c cc nL R_RW D tc) (hP : va_P D vwCl (wW n ad E) H) (hk : k < n) (hE : E k = .inr (1, fs)) (hv : fs[1]? = some v) (hdg : decode cc pc = .ok (.getfield 149, 3)) (kk : W p l e R s m args below meth c H locs cells slots Q (F0 m (pc + 3) ls (v :: rest))) : W p l e R s m args below meth c H locs cells slots Q (F0 m pc ls (.ref (ad k) :: rest)) :=
  q_getN (T := T_LK) X hP hk hE rfl in_LK 1 (by decide) w_87 rfl hv hdg kk
theorem p_RW_149 (X : Cx p s m args c cc nL R_RW D tc) (hD : va_D A (wW n ad E)) (hP : va_P D vwCl (wW n ad E) H) (hS : va_S A H0 H locs) (hk : k < n) (hE : E k = .inr (1, fs)) (hn : narrow (.int) v = v) (hfit : fits (.int) v = true) (hl : 1 < fs.length) (hdg : decode cc pc = .ok (.putfield 149, 3))
    (kk : ∀ (H1 : Heap) (locs1 : List Loc), va_D A (wW n ad (va_up E k (.inr (1, fs.set 1 v)))) → va_P D vwCl (wW n ad (va_up E k (.inr (1, fs.set 1 v)))) H1 → va_S A H0 H1 locs1 → W p l e R s m args below meth c H1 locs1 cells slots Q (F0 m (pc + 3) ls rest)) : W p l e R s m args below meth c H locs cells slots Q (F0 m pc ls (v :: .ref (ad k) :: rest)) :=
  q_putN (T := T_LK) ty_LK X hD hP hS hk hE rfl in_LK tok_LK nm_LK 1 (by decide) w_87 rfl rfl (by decide +kernel) hn hfit hl hdg kk
theorem g_LK_22 (X : Cx p s m args c cc nL R_LK D tc) (hP : va_P D vwCl (wW n ad E) H) (hk : k < n) (hE : E k = .inr (1, fs)) (hv : fs[2]? = some v) (hdg : decode cc pc = .ok (.getfield 22, 3)) (kk : W p l e R s m args below meth c H locs cells slots Q (F0 m (pc + 3) ls (v :: rest))) : W p l e R s m args below meth c H locs cells slots Q (F0 m pc ls (.ref (ad k) :: rest)) :=
  q_get (T := T_LK) X hP hk hE rfl in_LK 2 (by decide) w_88 rfl hv hdg kk
theorem p_LK_22 (X : Cx p s m args c cc nL R_LK D tc) (hD : va_D A (wW n ad E)) (hP : va_P D vwCl (wW n ad E) H) (hS : va_S A H0 H locs) (hk : k < n) (hE : E k = .inr (1, fs)) (hn : narrow (.int) v = v) (hfit : fits (.int) v = true) (hl : 2 < fs.length) (hdg : decode cc pc = .ok (.putfield 22, 3))
    (kk : ∀ (H1 : Heap) (locs1 : List Loc), va_D A (wW n ad (va_up E k (.inr (1, fs.set 2 v)))) → va_P D vwCl (wW n ad (va_up E k (.inr (1, fs.set 2 v)))) H1 → va_S A H0 H1 locs1 → W p l e R s m args below meth c H1 locs1 cells slots Q (F0 m (pc + 3) ls rest)) : W p l e R s m args below meth c H locs cells slots Q (F0 m pc ls (v :: .ref (ad k) :: rest)) :=
  q_put (T := T_LK) ty_LK X hD hP hS hk hE rfl in_LK tok_LK nm_LK 2 (by decide) w_88 rfl rfl (by decide +kernel) hn hfit hl hdg kk
theorem g_RW_146 (X : Cx p s m args c cc nL R_RW D tc) (hP : va_P D vwCl (wW n ad E) H) (hk : k < n) (hE : E k = .inr (1, fs)) (hv : fs[2]? = some v) (hdg : decode cc pc = .ok (.getfield 146, 3)) (kk : W p l e R s m args below meth c H locs cells slots Q (F0 m (pc + 3) ls (v :: rest))) : W p l e R s m args below meth c H locs cells slots Q (F0 m pc ls (.ref (ad k) :: rest)) :=
  q_getN (T := T_LK) X hP hk hE rfl in_LK 2 (by decide) w_89 rfl hv hdg kk
theorem p_RW_146 (X : Cx p s m args c cc nL R_RW D tc) (hD : va_D A (wW n ad E)) (hP : va_P D vwCl (wW n ad E) H) (hS : va_S A H0 H locs) (hk : k < n) (hE : E k = .inr (1, fs)) (hn : narrow (.int) v = v) (hfit : fits (.int) v = true) (hl : 2 < fs.length) (hdg : decode cc pc = .ok (.putfield 146, 3))
    (kk : ∀ (H1 : Heap) (locs1 : List Loc), va_D A (wW n ad (va_up E k (.inr (1, fs.set 2 v)))) → va_P D vwCl (wW n ad (va_up E k (.inr (1, fs.set 2 v)))) H1 → va_S A H0 H1 locs1 → W p l e R s m args below meth c H1 locs1 cells slots Q (F0 m (pc + 3) ls rest)) : W p l e R s m args below meth c H locs cells slots Q (F0 m pc ls (v :: .ref (ad k) :: rest)) :=
  q_putN (T := T_LK) ty_LK X hD hP hS hk hE rfl in_LK tok_LK nm_LK 2 (by decide) w_89 rfl rfl (by decide +kernel) hn hfit hl hdg kk
theorem g_TR_9 (X : Cx p s m args c cc nL R_TR D tc) (hP : va_P D vwCl (wW n ad E) H) (hk : k < n) (hE : E k = .inr (4, fs)) (hv : fs[0]? = some v) (hdg : decode cc pc = .ok (.getfield 9, 3)) (kk : W p l e R s m args below meth c H locs cells slots Q (F0 m (pc + 3) ls (v :: rest))) : W p l e R s m args below meth c H locs cells slots Q (F0 m pc ls (.ref (ad k) :: rest)) :=
  q_get (T := T_TR) X hP hk hE rfl in_TR 0 (by decide) w_102 rfl hv hdg kk
theorem p_TR_9 (X : Cx p s m args c cc nL R_TR D tc) (hin : meth.name = "<init>") (hD : va_D A (wW n ad E)) (hP : va_P D vwCl (wW n ad E) H) (hS : va_S A H0 H locs) (hk : k < n) (hE : E k = .inr (4, fs)) (hn : narrow (.array .int) v = v) (hfit : fits (.array .int) v = true) (hl : 0 < fs.length) (hdg : decode cc pc = .ok (.putfield 9, 3))
    (kk : ∀ (H1 : Heap) (locs1 : List Loc), va_D A (wW n ad (va_up E k (.inr (4, fs.set 0 v)))) → va_P D vwCl (wW n ad (va_up E k (.inr (4, fs.set 0 v)))) H1 → va_S A H0 H1 locs1 → W p l e R s m args below meth c H1 locs1 cells slots Q (F0 m (pc + 3) ls rest)) : W p l e R s m args below meth c H locs cells slots Q (F0 m pc ls (v :: .ref (ad k) :: rest)) :=
  q_putF (T := T_TR) ty_TR X hD hP hS hk hE rfl in_TR tok_TR nm_TR 0 (by decide) w_102 rfl rfl hin rfl (by decide +kernel) hn hfit hl hdg kk
theorem g_RW_158 (X : Cx p s m args c cc nL R_RW D tc) (hP : va_P D vwCl (wW n ad E) H) (hk : k < n) (hE : E k = .inr (4, fs)) (hv : fs[0]? = some v) (hdg : decode cc pc = .ok (.getfield 158, 3)) (kk : W p l e R s m args below meth c H locs cells slots Q (F0 m (pc + 3) ls (v :: rest))) : W p l e R s m args below meth c H locs cells slots Q (F0 m pc ls (.ref (ad k) :: rest)) :=
  q_getN (T := T_TR) X hP hk hE rfl in_TR 0 (by decide) w_103 rfl hv hdg kk
theorem g_TR_15 (X : Cx p s m args c cc nL R_TR D tc) (hP : va_P D vwCl (wW n ad E) H) (hk : k < n) (hE : E k = .inr (4, fs)) (hv : fs[1]? = some v) (hdg : decode cc pc = .ok (.getfield 15, 3)) (kk : W p l e R s m args below meth c H locs cells slots Q (F0 m (pc + 3) ls (v :: rest))) : W p l e R s m args below meth c H locs cells slots Q (F0 m pc ls (.ref (ad k) :: rest)) :=
  q_get (T := T_TR) X hP hk hE rfl in_TR 1 (by decide) w_104 rfl hv hdg kk
theorem p_TR_15 (X : Cx p s m args c cc nL R_TR D tc) (hin : meth.name = "<init>") (hD : va_D A (wW n ad E)) (hP : va_P D vwCl (wW n ad E) H) (hS : va_S A H0 H locs) (hk : k < n) (hE : E k = .inr (4, fs)) (hn : narrow (.array .int) v = v) (hfit : fits (.array .int) v = true) (hl : 1 < fs.length) (hdg : decode cc pc = .ok (.putfield 15, 3))
    (kk : ∀ (H1 : Heap) (locs1 : List Loc), va_D A (wW n ad (va_up E k (.inr (4, fs.set 1 v)))) → va_P D vwCl (wW n ad (va_up E k (.inr (4, fs.set 1 v)))) H1 → va_S A H0 H1 locs1 → W p l e R s m args below meth c H1 locs1 cells slots Q (F0 m (pc + 3) ls rest)) : W p l e R s m args below meth c H locs cells slots Q (F0 m pc ls (v :: .ref (ad k) :: rest)) :=
  q_putF (T := T_TR) ty_TR X hD hP hS hk hE rfl in_TR tok_TR nm_TR 1 (by decide) w_104 rfl rfl hin rfl (by decide +kernel) hn hfit hl hdg kk
theorem g_TR_18 (X : Cx p s m args c cc nL R_TR D tc) (hP : va_P D vwCl (wW n ad E) H) (hk : k < n) (hE : E k = .inr (4, fs)) (hv : fs[2]? = some v) (hdg : decode cc pc = .ok (.getfield 18, 3)) (kk : W p l e R s m args below meth c H locs cells slots Q (F0 m (pc + 3) ls (v :: rest))) : W p l e R s m args below meth c H locs cells slots Q (F0 m pc ls (.ref (ad k) :: rest)) :=
  q_get (T := T_TR) X hP hk hE rfl in_TR 2 (by decide) w_105 rfl hv hdg kk
theorem p_TR_18 (X : Cx p s m args c cc nL R_TR D tc) (hD : va_D A (wW n ad E)) (hP : va_P D vwCl (wW n ad E) H) (hS : va_S A H0 H locs) (hk : k < n) (hE : E k = .inr (4, fs)) (hn : narrow (.int) v = v) (hfit : fits (.int) v = true) (hl : 2 < fs.length) (hdg : decode cc pc = .ok (.putfield 18, 3))
    (kk : ∀ (H1 : Heap) (locs1 : List Loc), va_D A (wW n ad (va_up E k (.inr (4, fs.set 2 v)))) → va_P D vwCl (wW n ad (va_up E k (.inr (4, fs.set 2 v)))) H1 → va_S A H0 H1 locs1 → W p l e R s m args below meth c H1 locs1 cells slots Q (F0 m (pc + 3) ls rest)) : W p l e R s m args below meth c H locs cells slots Q (F0 m pc ls (v :: .ref (ad k) :: rest)) :=
  q_put (T := T_TR) ty_TR X hD hP hS hk hE rfl in_TR tok_TR nm_TR 2 (by decide) w_105 rfl rfl (by decide +kernel) hn hfit hl hdg kk
theorem g_RW_152 (X : Cx p s m args c cc nL R_RW D tc) (hP : va_P D vwCl (wW n ad E) H) (hk : k < n) (hE : E k = .inr (4, fs)) (hv : fs[2]? = some v) (hdg : decode cc pc = .ok (.getfield 152, 3)) (kk : W p l e R s m args below meth c H locs cells slots Q (F0 m (pc + 3) ls (v :: rest))) : W p l e R s m args below meth c H locs cells slots Q (F0 m pc ls (.ref (ad k) :: rest)) :=
  q_getN (T := T_TR) X hP hk hE rfl in_TR 2 (by decide) w_106 rfl hv hdg kk
theorem p_RW_152 (X : Cx p s m args c cc nL R_RW D tc) (hD : va_D A (wW n ad E)) (hP : va_P D vwCl (wW n ad E) H) (hS : va_S A H0 H locs) (hk : k < n) (hE : E k = .inr (4, fs)) (hn : narrow (.int) v = v) (hfit : fits (.int) v = true) (hl : 2 < fs.length) (hdg : decode cc pc = .ok (.putfield 152, 3))
    (kk : ∀ (H1 : Heap) (locs1 : List Loc), va_D A (wW n ad (va_up E k (.inr (4, fs.set 2 v)))) → va_P D vwCl (wW n ad (va_up E k (.inr (4, fs.set 2 v)))) H1 → va_S A H0 H1 locs1 → W p l e R s m args below meth c H1 locs1 cells slots Q (F0 m (pc + 3) ls rest)) : W p l e R s m args below meth c H locs cells slots Q (F0 m pc ls (v :: .ref (ad k) :: rest)) :=
  q_putN (T := T_TR) ty_TR X hD hP hS hk hE rfl in_TR tok_TR nm_TR 2 (by decide) w_106 rfl rfl (by decide +kernel) hn hfit hl hdg kk
theorem g_BK_9 (X : Cx p s m args c cc nL R_BK D tc) (hP : va_P D vwCl (wW n ad E) H) (hk : k < n) (hE : E k = .inr (3, fs)) (hv : fs[0]? = some v) (hdg : decode cc pc = .ok (.getfield 9, 3)) (kk : W p l e R s m args below meth c H locs cells slots Q (F0 m (pc + 3) ls (v :: rest))) : W p l e R s m args below meth c H locs cells slots Q (F0 m pc ls (.ref (ad k) :: rest)) :=
  q_get (T := T_BK) X hP hk hE rfl in_BK 0 (by decide) w_123 rfl hv hdg kk
theorem p_BK_9 (X : Cx p s m args c cc nL R_BK D tc) (hin : meth.name = "<init>") (hD : va_D A (wW n ad E)) (hP : va_P D vwCl (wW n ad E) H) (hS : va_S A H0 H locs) (hk : k < n) (hE : E k = .inr (3, fs)) (hn : narrow (.array .int) v = v) (hfit : fits (.array .int) v = true) (hl : 0 < fs.length) (hdg : decode cc pc = .ok (.putfield 9, 3))
    (kk : ∀ (H1 : Heap) (locs1 : List Loc), va_D A (wW n ad (va_up E k (.inr (3, fs.set 0 v)))) → va_P D vwCl (wW n ad (va_up E k (.inr (3, fs.set 0 v)))) H1 → va_S A H0 H1 locs1 → W p l e R s m args below meth c H1 locs1 cells slots Q (F0 m (pc + 3) ls rest)) : W p l e R s m args below meth c H locs cells slots Q (F0 m pc ls (v :: .ref (ad k) :: rest)) :=
  q_putF (T := T_BK) ty_BK X hD hP hS hk hE rfl in_BK tok_BK nm_BK 0 (by decide) w_123 rfl rfl hin rfl (by decide +kernel) hn hfit hl hdg kk
theorem g_RW_171 (X : Cx p s m args c cc nL R_RW D tc) (hP : va_P D vwCl (wW n ad E) H) (hk : k < n) (hE : E k = .inr (3, fs)) (hv : fs[0]? = some v) (hdg : decode cc pc = .ok (.getfield 171, 3)) (kk : W p l e R s m args below meth c H locs cells slots Q (F0 m (pc + 3) ls (v :: rest))) : W p l e R s m args below meth c H locs cells slots Q (F0 m pc ls (.ref (ad k) :: rest)) :=
  q_getN (T := T_BK) X hP hk hE rfl in_BK 0 (by decide) w_124 rfl hv hdg kk
theorem g_BK_15 (X : Cx p s m args c cc nL R_BK D tc) (hP : va_P D vwCl (wW n ad E) H) (hk : k < n) (hE : E k = .inr (3, fs)) (hv : fs[1]? = some v) (hdg : decode cc pc = .ok (.getfield 15, 3)) (kk : W p l e R s m args below meth c H locs cells slots Q (F0 m (pc + 3) ls (v :: rest))) : W p l e R s m args below meth c H locs cells slots Q (F0 m pc ls (.ref (ad k) :: rest)) :=
  q_get (T := T_BK) X hP hk hE rfl in_BK 1 (by decide) w_125 rfl hv hdg kk
theorem p_BK_15 (X : Cx p s m args c cc nL R_BK D tc) (hin : meth.name = "<init>") (hD : va_D A (wW n ad E)) (hP : va_P D vwCl (wW n ad E) H) (hS : va_S A H0 H locs) (hk : k < n) (hE : E k = .inr (3, fs)) (hn : narrow (.array .int) v = v) (hfit : fits (.array .int) v = true) (hl : 1 < fs.length) (hdg : decode cc pc = .ok (.putfield 15, 3))
    (kk : ∀ (H1 : Heap) (locs1 : List Loc), va_D A (wW n ad (va_up E k (.inr (3, fs.set 1 v)))) → va_P D vwCl (wW n ad (va_up E k (.inr (3, fs.set 1 v)))) H1 → va_S A H0 H1 locs1 → W p l e R s m args below meth c H1 locs1 cells slots Q (F0 m (pc + 3) ls rest)) : W p l e R s m args below meth c H locs cells slots Q (F0 m pc ls (v :: .ref (ad k) :: rest)) :=
  q_putF (T := T_BK) ty_BK X hD hP hS hk hE rfl in_BK tok_BK nm_BK 1 (by decide) w_125 rfl rfl hin rfl (by decide +kernel) hn hfit hl hdg kk
theorem g_RW_174 (X : Cx p s m args c cc nL R_RW D tc) (hP : va_P D vwCl (wW n ad E) H) (hk : k < n) (hE : E k = .inr (3, fs)) (hv : fs[1]? = some v) (hdg : decode cc pc = .ok (.getfield 174, 3)) (kk : W p l e R s m args below meth c H locs cells slots Q (F0 m (pc + 3) ls (v :: rest))) : W p l e R s m args below meth c H locs cells slots Q (F0 m pc ls (.ref (ad k) :: rest)) :=
  q_getN (T := T_BK) X hP hk hE rfl in_BK 1 (by decide) w_126 rfl hv hdg kk
theorem g_BK_18 (X : Cx p s m args c cc nL R_BK D tc) (hP : va_P D vwCl (wW n ad E) H) (hk : k < n) (hE : E k = .inr (3, fs)) (hv : fs[2]? = some v) (hdg : decode cc pc = .ok (.getfield 18, 3)) (kk : W p l e R s m args below meth c H locs cells slots Q (F0 m (pc + 3) ls (v :: rest))) : W p l e R s m args below meth c H locs cells slots Q (F0 m pc ls (.ref (ad k) :: rest)) :=
  q_get (T := T_BK) X hP hk hE rfl in_BK 2 (by decide) w_127 rfl hv hdg kk
theorem p_BK_18 (X : Cx p s m args c cc nL R_BK D tc) (hin : meth.name = "<init>") (hD : va_D A (wW n ad E)) (hP : va_P D vwCl (wW n ad E) H) (hS : va_S A H0 H locs) (hk : k < n) (hE : E k = .inr (3, fs)) (hn : narrow (.array .int) v = v) (hfit : fits (.array .int) v = true) (hl : 2 < fs.length) (hdg : decode cc pc = .ok (.putfield 18, 3))
    (kk : ∀ (H1 : Heap) (locs1 : List Loc), va_D A (wW n ad (va_up E k (.inr (3, fs.set 2 v)))) → va_P D vwCl (wW n ad (va_up E k (.inr (3, fs.set 2 v)))) H1 → va_S A H0 H1 locs1 → W p l e R s m args below meth c H1 locs1 cells slots Q (F0 m (pc + 3) ls rest)) : W p l e R s m args below meth c H locs cells slots Q (F0 m pc ls (v :: .ref (ad k) :: rest)) :=
  q_putF (T := T_BK) ty_BK X hD hP hS hk hE rfl in_BK tok_BK nm_BK 2 (by decide) w_127 rfl rfl hin rfl (by decide +kernel) hn hfit hl hdg kk
theorem g_BK_21 (X : Cx p s m args c cc nL R_BK D tc) (hP : va_P D vwCl (wW n ad E) H) (hk : k < n) (hE : E k = .inr (3, fs)) (hv : fs[3]? = some v) (hdg : decode cc pc = .ok (.getfield 21, 3)) (kk : W p l e R s m args below meth c H locs cells slots Q (F0 m (pc + 3) ls (v :: rest))) : W p l e R s m args below meth c H locs cells slots Q (F0 m pc ls (.ref (ad k) :: rest)) :=
  q_get (T := T_BK) X hP hk hE rfl in_BK 3 (by decide) w_128 rfl hv hdg kk
theorem p_BK_21 (X : Cx p s m args c cc nL R_BK D tc) (hin : meth.name = "<init>") (hD : va_D A (wW n ad E)) (hP : va_P D vwCl (wW n ad E) H) (hS : va_S A H0 H locs) (hk : k < n) (hE : E k = .inr (3, fs)) (hn : narrow (.array .int) v = v) (hfit : fits (.array .int) v = true) (hl : 3 < fs.length) (hdg : decode cc pc = .ok (.putfield 21, 3))
    (kk : ∀ (H1 : Heap) (locs1 : List Loc), va_D A (wW n ad (va_up E k (.inr (3, fs.set 3 v)))) → va_P D vwCl (wW n ad (va_up E k (.inr (3, fs.set 3 v)))) H1 → va_S A H0 H1 locs1 → W p l e R s m args below meth c H1 locs1 cells slots Q (F0 m (pc + 3) ls rest)) : W p l e R s m args below meth c H locs cells slots Q (F0 m pc ls (v :: .ref (ad k) :: rest)) :=
  q_putF (T := T_BK) ty_BK X hD hP hS hk hE rfl in_BK tok_BK nm_BK 3 (by decide) w_128 rfl rfl hin rfl (by decide +kernel) hn hfit hl hdg kk
theorem g_RW_11 (X : Cx p s m args c cc nL R_RW D tc) (hP : va_P D vwCl (wW n ad E) H) (hk : k < n) (hE : E k = .inr (6, fs)) (hv : fs[0]? = some v) (hdg : decode cc pc = .ok (.getfield 11, 3)) (kk : W p l e R s m args below meth c H locs cells slots Q (F0 m (pc + 3) ls (v :: rest))) : W p l e R s m args below meth c H locs cells slots Q (F0 m pc ls (.ref (ad k) :: rest)) :=
  q_get (T := T_RW) X hP hk hE rfl in_RW 0 (by decide) w_133 rfl hv hdg kk
theorem p_RW_11 (X : Cx p s m args c cc nL R_RW D tc) (hin : meth.name = "<init>") (hD : va_D A (wW n ad E)) (hP : va_P D vwCl (wW n ad E) H) (hS : va_S A H0 H locs) (hk : k < n) (hE : E k = .inr (6, fs)) (hn : narrow (.array (.object "RaceWatch$Program")) v = v) (hfit : fits (.array (.object "RaceWatch$Program")) v = true) (hl : 0 < fs.length) (hdg : decode cc pc = .ok (.putfield 11, 3))
    (kk : ∀ (H1 : Heap) (locs1 : List Loc), va_D A (wW n ad (va_up E k (.inr (6, fs.set 0 v)))) → va_P D vwCl (wW n ad (va_up E k (.inr (6, fs.set 0 v)))) H1 → va_S A H0 H1 locs1 → W p l e R s m args below meth c H1 locs1 cells slots Q (F0 m (pc + 3) ls rest)) : W p l e R s m args below meth c H locs cells slots Q (F0 m pc ls (v :: .ref (ad k) :: rest)) :=
  q_putF (T := T_RW) ty_RW X hD hP hS hk hE rfl in_RW tok_RW nm_RW 0 (by decide) w_133 rfl rfl hin rfl (by decide +kernel) hn hfit hl hdg kk
theorem g_RW_17 (X : Cx p s m args c cc nL R_RW D tc) (hP : va_P D vwCl (wW n ad E) H) (hk : k < n) (hE : E k = .inr (6, fs)) (hv : fs[1]? = some v) (hdg : decode cc pc = .ok (.getfield 17, 3)) (kk : W p l e R s m args below meth c H locs cells slots Q (F0 m (pc + 3) ls (v :: rest))) : W p l e R s m args below meth c H locs cells slots Q (F0 m pc ls (.ref (ad k) :: rest)) :=
  q_get (T := T_RW) X hP hk hE rfl in_RW 1 (by decide) w_134 rfl hv hdg kk
theorem p_RW_17 (X : Cx p s m args c cc nL R_RW D tc) (hin : meth.name = "<init>") (hD : va_D A (wW n ad E)) (hP : va_P D vwCl (wW n ad E) H) (hS : va_S A H0 H locs) (hk : k < n) (hE : E k = .inr (6, fs)) (hn : narrow (.array (.object "RaceWatch$Worker")) v = v) (hfit : fits (.array (.object "RaceWatch$Worker")) v = true) (hl : 1 < fs.length) (hdg : decode cc pc = .ok (.putfield 17, 3))
    (kk : ∀ (H1 : Heap) (locs1 : List Loc), va_D A (wW n ad (va_up E k (.inr (6, fs.set 1 v)))) → va_P D vwCl (wW n ad (va_up E k (.inr (6, fs.set 1 v)))) H1 → va_S A H0 H1 locs1 → W p l e R s m args below meth c H1 locs1 cells slots Q (F0 m (pc + 3) ls rest)) : W p l e R s m args below meth c H locs cells slots Q (F0 m pc ls (v :: .ref (ad k) :: rest)) :=
  q_putF (T := T_RW) ty_RW X hD hP hS hk hE rfl in_RW tok_RW nm_RW 1 (by decide) w_134 rfl rfl hin rfl (by decide +kernel) hn hfit hl hdg kk
theorem g_RW_25 (X : Cx p s m args c cc nL R_RW D tc) (hP : va_P D vwCl (wW n ad E) H) (hk : k < n) (hE : E k = .inr (6, fs)) (hv : fs[2]? = some v) (hdg : decode cc pc = .ok (.getfield 25, 3)) (kk : W p l e R s m args below meth c H locs cells slots Q (F0 m (pc + 3) ls (v :: rest))) : W p l e R s m args below meth c H locs cells slots Q (F0 m pc ls (.ref (ad k) :: rest)) :=
  q_get (T := T_RW) X hP hk hE rfl in_RW 2 (by decide) w_135 rfl hv hdg kk
theorem p_RW_25 (X : Cx p s m args c cc nL R_RW D tc) (hin : meth.name = "<init>") (hD : va_D A (wW n ad E)) (hP : va_P D vwCl (wW n ad E) H) (hS : va_S A H0 H locs) (hk : k < n) (hE : E k = .inr (6, fs)) (hn : narrow (.array (.object "RaceWatch$Lock")) v = v) (hfit : fits (.array (.object "RaceWatch$Lock")) v = true) (hl : 2 < fs.length) (hdg : decode cc pc = .ok (.putfield 25, 3))
    (kk : ∀ (H1 : Heap) (locs1 : List Loc), va_D A (wW n ad (va_up E k (.inr (6, fs.set 2 v)))) → va_P D vwCl (wW n ad (va_up E k (.inr (6, fs.set 2 v)))) H1 → va_S A H0 H1 locs1 → W p l e R s m args below meth c H1 locs1 cells slots Q (F0 m (pc + 3) ls rest)) : W p l e R s m args below meth c H locs cells slots Q (F0 m pc ls (v :: .ref (ad k) :: rest)) :=
  q_putF (T := T_RW) ty_RW X hD hP hS hk hE rfl in_RW tok_RW nm_RW 2 (by decide) w_135 rfl rfl hin rfl (by decide +kernel) hn hfit hl hdg kk
theorem g_RW_32 (X : Cx p s m args c cc nL R_RW D tc) (hP : va_P D vwCl (wW n ad E) H) (hk : k < n) (hE : E k = .inr (6, fs)) (hv : fs[3]? = some v) (hdg : decode cc pc = .ok (.getfield 32, 3)) (kk : W p l e R s m args below meth c H locs cells slots Q (F0 m (pc + 3) ls (v :: rest))) : W p l e R s m args below meth c H locs cells slots Q (F0 m pc ls (.ref (ad k) :: rest)) :=
  q_get (T := T_RW) X hP hk hE rfl in_RW 3 (by decide) w_136 rfl hv hdg kk
theorem p_RW_32 (X : Cx p s m args c cc nL R_RW D tc) (hin : meth.name = "<init>") (hD : va_D A (wW n ad E)) (hP : va_P D vwCl (wW n ad E) H) (hS : va_S A H0 H locs) (hk : k < n) (hE : E k = .inr (6, fs)) (hn : narrow (.array (.object "RaceWatch$Clock")) v = v) (hfit : fits (.array (.object "RaceWatch$Clock")) v = true) (hl : 3 < fs.length) (hdg : decode cc pc = .ok (.putfield 32, 3))
    (kk : ∀ (H1 : Heap) (locs1 : List Loc), va_D A (wW n ad (va_up E k (.inr (6, fs.set 3 v)))) → va_P D vwCl (wW n ad (va_up E k (.inr (6, fs.set 3 v)))) H1 → va_S A H0 H1 locs1 → W p l e R s m args below meth c H1 locs1 cells slots Q (F0 m (pc + 3) ls rest)) : W p l e R s m args below meth c H locs cells slots Q (F0 m pc ls (v :: .ref (ad k) :: rest)) :=
  q_putF (T := T_RW) ty_RW X hD hP hS hk hE rfl in_RW tok_RW nm_RW 3 (by decide) w_136 rfl rfl hin rfl (by decide +kernel) hn hfit hl hdg kk
theorem g_RW_40 (X : Cx p s m args c cc nL R_RW D tc) (hP : va_P D vwCl (wW n ad E) H) (hk : k < n) (hE : E k = .inr (6, fs)) (hv : fs[4]? = some v) (hdg : decode cc pc = .ok (.getfield 40, 3)) (kk : W p l e R s m args below meth c H locs cells slots Q (F0 m (pc + 3) ls (v :: rest))) : W p l e R s m args below meth c H locs cells slots Q (F0 m pc ls (.ref (ad k) :: rest)) :=
  q_get (T := T_RW) X hP hk hE rfl in_RW 4 (by decide) w_137 rfl hv hdg kk
theorem p_RW_40 (X : Cx p s m args c cc nL R_RW D tc) (hin : meth.name = "<init>") (hD : va_D A (wW n ad E)) (hP : va_P D vwCl (wW n ad E) H) (hS : va_S A H0 H locs) (hk : k < n) (hE : E k = .inr (6, fs)) (hn : narrow (.object "RaceWatch$Trace") v = v) (hfit : fits (.object "RaceWatch$Trace") v = true) (hl : 4 < fs.length) (hdg : decode cc pc = .ok (.putfield 40, 3))
    (kk : ∀ (H1 : Heap) (locs1 : List Loc), va_D A (wW n ad (va_up E k (.inr (6, fs.set 4 v)))) → va_P D vwCl (wW n ad (va_up E k (.inr (6, fs.set 4 v)))) H1 → va_S A H0 H1 locs1 → W p l e R s m args below meth c H1 locs1 cells slots Q (F0 m (pc + 3) ls rest)) : W p l e R s m args below meth c H locs cells slots Q (F0 m pc ls (v :: .ref (ad k) :: rest)) :=
  q_putF (T := T_RW) ty_RW X hD hP hS hk hE rfl in_RW tok_RW nm_RW 4 (by decide) w_137 rfl rfl hin rfl (by decide +kernel) hn hfit hl hdg kk
theorem g_RW_47 (X : Cx p s m args c cc nL R_RW D tc) (hP : va_P D vwCl (wW n ad E) H) (hk : k < n) (hE : E k = .inr (6, fs)) (hv : fs[5]? = some v) (hdg : decode cc pc = .ok (.getfield 47, 3)) (kk : W p l e R s m args below meth c H locs cells slots Q (F0 m (pc + 3) ls (v :: rest))) : W p l e R s m args below meth c H locs cells slots Q (F0 m pc ls (.ref (ad k) :: rest)) :=
  q_get (T := T_RW) X hP hk hE rfl in_RW 5 (by decide) w_138 rfl hv hdg kk
theorem p_RW_47 (X : Cx p s m args c cc nL R_RW D tc) (hin : meth.name = "<init>") (hD : va_D A (wW n ad E)) (hP : va_P D vwCl (wW n ad E) H) (hS : va_S A H0 H locs) (hk : k < n) (hE : E k = .inr (6, fs)) (hn : narrow (.object "RaceWatch$RaceBook") v = v) (hfit : fits (.object "RaceWatch$RaceBook") v = true) (hl : 5 < fs.length) (hdg : decode cc pc = .ok (.putfield 47, 3))
    (kk : ∀ (H1 : Heap) (locs1 : List Loc), va_D A (wW n ad (va_up E k (.inr (6, fs.set 5 v)))) → va_P D vwCl (wW n ad (va_up E k (.inr (6, fs.set 5 v)))) H1 → va_S A H0 H1 locs1 → W p l e R s m args below meth c H1 locs1 cells slots Q (F0 m (pc + 3) ls rest)) : W p l e R s m args below meth c H locs cells slots Q (F0 m pc ls (v :: .ref (ad k) :: rest)) :=
  q_putF (T := T_RW) ty_RW X hD hP hS hk hE rfl in_RW tok_RW nm_RW 5 (by decide) w_138 rfl rfl hin rfl (by decide +kernel) hn hfit hl hdg kk
theorem g_RW_51 (X : Cx p s m args c cc nL R_RW D tc) (hP : va_P D vwCl (wW n ad E) H) (hk : k < n) (hE : E k = .inr (6, fs)) (hv : fs[6]? = some v) (hdg : decode cc pc = .ok (.getfield 51, 3)) (kk : W p l e R s m args below meth c H locs cells slots Q (F0 m (pc + 3) ls (v :: rest))) : W p l e R s m args below meth c H locs cells slots Q (F0 m pc ls (.ref (ad k) :: rest)) :=
  q_get (T := T_RW) X hP hk hE rfl in_RW 6 (by decide) w_139 rfl hv hdg kk
theorem p_RW_51 (X : Cx p s m args c cc nL R_RW D tc) (hin : meth.name = "<init>") (hD : va_D A (wW n ad E)) (hP : va_P D vwCl (wW n ad E) H) (hS : va_S A H0 H locs) (hk : k < n) (hE : E k = .inr (6, fs)) (hn : narrow (.object "RaceWatch$RaceBook") v = v) (hfit : fits (.object "RaceWatch$RaceBook") v = true) (hl : 6 < fs.length) (hdg : decode cc pc = .ok (.putfield 51, 3))
    (kk : ∀ (H1 : Heap) (locs1 : List Loc), va_D A (wW n ad (va_up E k (.inr (6, fs.set 6 v)))) → va_P D vwCl (wW n ad (va_up E k (.inr (6, fs.set 6 v)))) H1 → va_S A H0 H1 locs1 → W p l e R s m args below meth c H1 locs1 cells slots Q (F0 m (pc + 3) ls rest)) : W p l e R s m args below meth c H locs cells slots Q (F0 m pc ls (v :: .ref (ad k) :: rest)) :=
  q_putF (T := T_RW) ty_RW X hD hP hS hk hE rfl in_RW tok_RW nm_RW 6 (by decide) w_139 rfl rfl hin rfl (by decide +kernel) hn hfit hl hdg kk
theorem g_RW_54 (X : Cx p s m args c cc nL R_RW D tc) (hP : va_P D vwCl (wW n ad E) H) (hk : k < n) (hE : E k = .inr (6, fs)) (hv : fs[7]? = some v) (hdg : decode cc pc = .ok (.getfield 54, 3)) (kk : W p l e R s m args below meth c H locs cells slots Q (F0 m (pc + 3) ls (v :: rest))) : W p l e R s m args below meth c H locs cells slots Q (F0 m pc ls (.ref (ad k) :: rest)) :=
  q_get (T := T_RW) X hP hk hE rfl in_RW 7 (by decide) w_140 rfl hv hdg kk
theorem p_RW_54 (X : Cx p s m args c cc nL R_RW D tc) (hD : va_D A (wW n ad E)) (hP : va_P D vwCl (wW n ad E) H) (hS : va_S A H0 H locs) (hk : k < n) (hE : E k = .inr (6, fs)) (hn : narrow (.boolean) v = v) (hfit : fits (.boolean) v = true) (hl : 7 < fs.length) (hdg : decode cc pc = .ok (.putfield 54, 3))
    (kk : ∀ (H1 : Heap) (locs1 : List Loc), va_D A (wW n ad (va_up E k (.inr (6, fs.set 7 v)))) → va_P D vwCl (wW n ad (va_up E k (.inr (6, fs.set 7 v)))) H1 → va_S A H0 H1 locs1 → W p l e R s m args below meth c H1 locs1 cells slots Q (F0 m (pc + 3) ls rest)) : W p l e R s m args below meth c H locs cells slots Q (F0 m pc ls (v :: .ref (ad k) :: rest)) :=
  q_put (T := T_RW) ty_RW X hD hP hS hk hE rfl in_RW tok_RW nm_RW 7 (by decide) w_140 rfl rfl (by decide +kernel) hn hfit hl hdg kk
theorem g_RW_58 (X : Cx p s m args c cc nL R_RW D tc) (hP : va_P D vwCl (wW n ad E) H) (hk : k < n) (hE : E k = .inr (6, fs)) (hv : fs[8]? = some v) (hdg : decode cc pc = .ok (.getfield 58, 3)) (kk : W p l e R s m args below meth c H locs cells slots Q (F0 m (pc + 3) ls (v :: rest))) : W p l e R s m args below meth c H locs cells slots Q (F0 m pc ls (.ref (ad k) :: rest)) :=
  q_get (T := T_RW) X hP hk hE rfl in_RW 8 (by decide) w_141 rfl hv hdg kk
theorem p_RW_58 (X : Cx p s m args c cc nL R_RW D tc) (hD : va_D A (wW n ad E)) (hP : va_P D vwCl (wW n ad E) H) (hS : va_S A H0 H locs) (hk : k < n) (hE : E k = .inr (6, fs)) (hn : narrow (.boolean) v = v) (hfit : fits (.boolean) v = true) (hl : 8 < fs.length) (hdg : decode cc pc = .ok (.putfield 58, 3))
    (kk : ∀ (H1 : Heap) (locs1 : List Loc), va_D A (wW n ad (va_up E k (.inr (6, fs.set 8 v)))) → va_P D vwCl (wW n ad (va_up E k (.inr (6, fs.set 8 v)))) H1 → va_S A H0 H1 locs1 → W p l e R s m args below meth c H1 locs1 cells slots Q (F0 m (pc + 3) ls rest)) : W p l e R s m args below meth c H locs cells slots Q (F0 m pc ls (v :: .ref (ad k) :: rest)) :=
  q_put (T := T_RW) ty_RW X hD hP hS hk hE rfl in_RW tok_RW nm_RW 8 (by decide) w_141 rfl rfl (by decide +kernel) hn hfit hl hdg kk
theorem g_MD_63 (X : Cx p s m args c cc nL R_MD D tc) (hP : va_P D vwCl (wW n ad E) H) (hk : k < n) (hE : E k = .inr (7, fs)) (hv : fs[0]? = some v) (hdg : decode cc pc = .ok (.getfield 63, 3)) (kk : W p l e R s m args below meth c H locs cells slots Q (F0 m (pc + 3) ls (v :: rest))) : W p l e R s m args below meth c H locs cells slots Q (F0 m pc ls (.ref (ad k) :: rest)) :=
  q_get (T := T_MD) X hP hk hE rfl in_MD 0 (by decide) w_499 rfl hv hdg kk
theorem p_MD_63 (X : Cx p s m args c cc nL R_MD D tc) (hD : va_D A (wW n ad E)) (hP : va_P D vwCl (wW n ad E) H) (hS : va_S A H0 H locs) (hk : k < n) (hE : E k = .inr (7, fs)) (hn : narrow (.int) v = v) (hfit : fits (.int) v = true) (hl : 0 < fs.length) (hdg : decode cc pc = .ok (.putfield 63, 3))
    (kk : ∀ (H1 : Heap) (locs1 : List Loc), va_D A (wW n ad (va_up E k (.inr (7, fs.set 0 v)))) → va_P D vwCl (wW n ad (va_up E k (.inr (7, fs.set 0 v)))) H1 → va_S A H0 H1 locs1 → W p l e R s m args below meth c H1 locs1 cells slots Q (F0 m (pc + 3) ls rest)) : W p l e R s m args below meth c H locs cells slots Q (F0 m pc ls (v :: .ref (ad k) :: rest)) :=
  q_put (T := T_MD) ty_MD X hD hP hS hk hE rfl in_MD tok_MD nm_MD 0 (by decide) w_499 rfl rfl (by decide +kernel) hn hfit hl hdg kk
theorem g_MD_71 (X : Cx p s m args c cc nL R_MD D tc) (hP : va_P D vwCl (wW n ad E) H) (hk : k < n) (hE : E k = .inr (7, fs)) (hv : fs[1]? = some v) (hdg : decode cc pc = .ok (.getfield 71, 3)) (kk : W p l e R s m args below meth c H locs cells slots Q (F0 m (pc + 3) ls (v :: rest))) : W p l e R s m args below meth c H locs cells slots Q (F0 m pc ls (.ref (ad k) :: rest)) :=
  q_get (T := T_MD) X hP hk hE rfl in_MD 1 (by decide) w_500 rfl hv hdg kk
theorem p_MD_71 (X : Cx p s m args c cc nL R_MD D tc) (hD : va_D A (wW n ad E)) (hP : va_P D vwCl (wW n ad E) H) (hS : va_S A H0 H locs) (hk : k < n) (hE : E k = .inr (7, fs)) (hn : narrow (.boolean) v = v) (hfit : fits (.boolean) v = true) (hl : 1 < fs.length) (hdg : decode cc pc = .ok (.putfield 71, 3))
    (kk : ∀ (H1 : Heap) (locs1 : List Loc), va_D A (wW n ad (va_up E k (.inr (7, fs.set 1 v)))) → va_P D vwCl (wW n ad (va_up E k (.inr (7, fs.set 1 v)))) H1 → va_S A H0 H1 locs1 → W p l e R s m args below meth c H1 locs1 cells slots Q (F0 m (pc + 3) ls rest)) : W p l e R s m args below meth c H locs cells slots Q (F0 m pc ls (v :: .ref (ad k) :: rest)) :=
  q_put (T := T_MD) ty_MD X hD hP hS hk hE rfl in_MD tok_MD nm_MD 1 (by decide) w_500 rfl rfl (by decide +kernel) hn hfit hl hdg kk
theorem g_MD_89 (X : Cx p s m args c cc nL R_MD D tc) (hP : va_P D vwCl (wW n ad E) H) (hk : k < n) (hE : E k = .inr (7, fs)) (hv : fs[2]? = some v) (hdg : decode cc pc = .ok (.getfield 89, 3)) (kk : W p l e R s m args below meth c H locs cells slots Q (F0 m (pc + 3) ls (v :: rest))) : W p l e R s m args below meth c H locs cells slots Q (F0 m pc ls (.ref (ad k) :: rest)) :=
  q_get (T := T_MD) X hP hk hE rfl in_MD 2 (by decide) w_501 rfl hv hdg kk
theorem p_MD_89 (X : Cx p s m args c cc nL R_MD D tc) (hD : va_D A (wW n ad E)) (hP : va_P D vwCl (wW n ad E) H) (hS : va_S A H0 H locs) (hk : k < n) (hE : E k = .inr (7, fs)) (hn : narrow (.boolean) v = v) (hfit : fits (.boolean) v = true) (hl : 2 < fs.length) (hdg : decode cc pc = .ok (.putfield 89, 3))
    (kk : ∀ (H1 : Heap) (locs1 : List Loc), va_D A (wW n ad (va_up E k (.inr (7, fs.set 2 v)))) → va_P D vwCl (wW n ad (va_up E k (.inr (7, fs.set 2 v)))) H1 → va_S A H0 H1 locs1 → W p l e R s m args below meth c H1 locs1 cells slots Q (F0 m (pc + 3) ls rest)) : W p l e R s m args below meth c H locs cells slots Q (F0 m pc ls (v :: .ref (ad k) :: rest)) :=
  q_put (T := T_MD) ty_MD X hD hP hS hk hE rfl in_MD tok_MD nm_MD 2 (by decide) w_501 rfl rfl (by decide +kernel) hn hfit hl hdg kk
theorem g_MD_7 (X : Cx p s m args c cc nL R_MD D tc) (hP : va_P D vwCl (wW n ad E) H) (hk : k < n) (hE : E k = .inr (7, fs)) (hv : fs[3]? = some v) (hdg : decode cc pc = .ok (.getfield 7, 3)) (kk : W p l e R s m args below meth c H locs cells slots Q (F0 m (pc + 3) ls (v :: rest))) : W p l e R s m args below meth c H locs cells slots Q (F0 m pc ls (.ref (ad k) :: rest)) :=
  q_get (T := T_MD) X hP hk hE rfl in_MD 3 (by decide) w_502 rfl hv hdg kk
theorem p_MD_7 (X : Cx p s m args c cc nL R_MD D tc) (hin : meth.name = "<init>") (hD : va_D A (wW n ad E)) (hP : va_P D vwCl (wW n ad E) H) (hS : va_S A H0 H locs) (hk : k < n) (hE : E k = .inr (7, fs)) (hn : narrow (.array .int) v = v) (hfit : fits (.array .int) v = true) (hl : 3 < fs.length) (hdg : decode cc pc = .ok (.putfield 7, 3))
    (kk : ∀ (H1 : Heap) (locs1 : List Loc), va_D A (wW n ad (va_up E k (.inr (7, fs.set 3 v)))) → va_P D vwCl (wW n ad (va_up E k (.inr (7, fs.set 3 v)))) H1 → va_S A H0 H1 locs1 → W p l e R s m args below meth c H1 locs1 cells slots Q (F0 m (pc + 3) ls rest)) : W p l e R s m args below meth c H locs cells slots Q (F0 m pc ls (v :: .ref (ad k) :: rest)) :=
  q_putF (T := T_MD) ty_MD X hD hP hS hk hE rfl in_MD tok_MD nm_MD 3 (by decide) w_502 rfl rfl hin rfl (by decide +kernel) hn hfit hl hdg kk
theorem g_MD_13 (X : Cx p s m args c cc nL R_MD D tc) (hP : va_P D vwCl (wW n ad E) H) (hk : k < n) (hE : E k = .inr (7, fs)) (hv : fs[4]? = some v) (hdg : decode cc pc = .ok (.getfield 13, 3)) (kk : W p l e R s m args below meth c H locs cells slots Q (F0 m (pc + 3) ls (v :: rest))) : W p l e R s m args below meth c H locs cells slots Q (F0 m pc ls (.ref (ad k) :: rest)) :=
  q_get (T := T_MD) X hP hk hE rfl in_MD 4 (by decide) w_503 rfl hv hdg kk
theorem p_MD_13 (X : Cx p s m args c cc nL R_MD D tc) (hin : meth.name = "<init>") (hD : va_D A (wW n ad E)) (hP : va_P D vwCl (wW n ad E) H) (hS : va_S A H0 H locs) (hk : k < n) (hE : E k = .inr (7, fs)) (hn : narrow (.array .int) v = v) (hfit : fits (.array .int) v = true) (hl : 4 < fs.length) (hdg : decode cc pc = .ok (.putfield 13, 3))
    (kk : ∀ (H1 : Heap) (locs1 : List Loc), va_D A (wW n ad (va_up E k (.inr (7, fs.set 4 v)))) → va_P D vwCl (wW n ad (va_up E k (.inr (7, fs.set 4 v)))) H1 → va_S A H0 H1 locs1 → W p l e R s m args below meth c H1 locs1 cells slots Q (F0 m (pc + 3) ls rest)) : W p l e R s m args below meth c H locs cells slots Q (F0 m pc ls (v :: .ref (ad k) :: rest)) :=
  q_putF (T := T_MD) ty_MD X hD hP hS hk hE rfl in_MD tok_MD nm_MD 4 (by decide) w_503 rfl rfl hin rfl (by decide +kernel) hn hfit hl hdg kk
theorem g_MD_16 (X : Cx p s m args c cc nL R_MD D tc) (hP : va_P D vwCl (wW n ad E) H) (hk : k < n) (hE : E k = .inr (7, fs)) (hv : fs[5]? = some v) (hdg : decode cc pc = .ok (.getfield 16, 3)) (kk : W p l e R s m args below meth c H locs cells slots Q (F0 m (pc + 3) ls (v :: rest))) : W p l e R s m args below meth c H locs cells slots Q (F0 m pc ls (.ref (ad k) :: rest)) :=
  q_get (T := T_MD) X hP hk hE rfl in_MD 5 (by decide) w_504 rfl hv hdg kk
theorem p_MD_16 (X : Cx p s m args c cc nL R_MD D tc) (hin : meth.name = "<init>") (hD : va_D A (wW n ad E)) (hP : va_P D vwCl (wW n ad E) H) (hS : va_S A H0 H locs) (hk : k < n) (hE : E k = .inr (7, fs)) (hn : narrow (.array .int) v = v) (hfit : fits (.array .int) v = true) (hl : 5 < fs.length) (hdg : decode cc pc = .ok (.putfield 16, 3))
    (kk : ∀ (H1 : Heap) (locs1 : List Loc), va_D A (wW n ad (va_up E k (.inr (7, fs.set 5 v)))) → va_P D vwCl (wW n ad (va_up E k (.inr (7, fs.set 5 v)))) H1 → va_S A H0 H1 locs1 → W p l e R s m args below meth c H1 locs1 cells slots Q (F0 m (pc + 3) ls rest)) : W p l e R s m args below meth c H locs cells slots Q (F0 m pc ls (v :: .ref (ad k) :: rest)) :=
  q_putF (T := T_MD) ty_MD X hD hP hS hk hE rfl in_MD tok_MD nm_MD 5 (by decide) w_504 rfl rfl hin rfl (by decide +kernel) hn hfit hl hdg kk
theorem g_MD_19 (X : Cx p s m args c cc nL R_MD D tc) (hP : va_P D vwCl (wW n ad E) H) (hk : k < n) (hE : E k = .inr (7, fs)) (hv : fs[6]? = some v) (hdg : decode cc pc = .ok (.getfield 19, 3)) (kk : W p l e R s m args below meth c H locs cells slots Q (F0 m (pc + 3) ls (v :: rest))) : W p l e R s m args below meth c H locs cells slots Q (F0 m pc ls (.ref (ad k) :: rest)) :=
  q_get (T := T_MD) X hP hk hE rfl in_MD 6 (by decide) w_505 rfl hv hdg kk
theorem p_MD_19 (X : Cx p s m args c cc nL R_MD D tc) (hin : meth.name = "<init>") (hD : va_D A (wW n ad E)) (hP : va_P D vwCl (wW n ad E) H) (hS : va_S A H0 H locs) (hk : k < n) (hE : E k = .inr (7, fs)) (hn : narrow (.array .int) v = v) (hfit : fits (.array .int) v = true) (hl : 6 < fs.length) (hdg : decode cc pc = .ok (.putfield 19, 3))
    (kk : ∀ (H1 : Heap) (locs1 : List Loc), va_D A (wW n ad (va_up E k (.inr (7, fs.set 6 v)))) → va_P D vwCl (wW n ad (va_up E k (.inr (7, fs.set 6 v)))) H1 → va_S A H0 H1 locs1 → W p l e R s m args below meth c H1 locs1 cells slots Q (F0 m (pc + 3) ls rest)) : W p l e R s m args below meth c H locs cells slots Q (F0 m pc ls (v :: .ref (ad k) :: rest)) :=
  q_putF (T := T_MD) ty_MD X hD hP hS hk hE rfl in_MD tok_MD nm_MD 6 (by decide) w_505 rfl rfl hin rfl (by decide +kernel) hn hfit hl hdg kk
theorem g_MD_22 (X : Cx p s m args c cc nL R_MD D tc) (hP : va_P D vwCl (wW n ad E) H) (hk : k < n) (hE : E k = .inr (7, fs)) (hv : fs[7]? = some v) (hdg : decode cc pc = .ok (.getfield 22, 3)) (kk : W p l e R s m args below meth c H locs cells slots Q (F0 m (pc + 3) ls (v :: rest))) : W p l e R s m args below meth c H locs cells slots Q (F0 m pc ls (.ref (ad k) :: rest)) :=
  q_get (T := T_MD) X hP hk hE rfl in_MD 7 (by decide) w_506 rfl hv hdg kk
theorem p_MD_22 (X : Cx p s m args c cc nL R_MD D tc) (hin : meth.name = "<init>") (hD : va_D A (wW n ad E)) (hP : va_P D vwCl (wW n ad E) H) (hS : va_S A H0 H locs) (hk : k < n) (hE : E k = .inr (7, fs)) (hn : narrow (.array .int) v = v) (hfit : fits (.array .int) v = true) (hl : 7 < fs.length) (hdg : decode cc pc = .ok (.putfield 22, 3))
    (kk : ∀ (H1 : Heap) (locs1 : List Loc), va_D A (wW n ad (va_up E k (.inr (7, fs.set 7 v)))) → va_P D vwCl (wW n ad (va_up E k (.inr (7, fs.set 7 v)))) H1 → va_S A H0 H1 locs1 → W p l e R s m args below meth c H1 locs1 cells slots Q (F0 m (pc + 3) ls rest)) : W p l e R s m args below meth c H locs cells slots Q (F0 m pc ls (v :: .ref (ad k) :: rest)) :=
  q_putF (T := T_MD) ty_MD X hD hP hS hk hE rfl in_MD tok_MD nm_MD 7 (by decide) w_506 rfl rfl hin rfl (by decide +kernel) hn hfit hl hdg kk
theorem g_MD_25 (X : Cx p s m args c cc nL R_MD D tc) (hP : va_P D vwCl (wW n ad E) H) (hk : k < n) (hE : E k = .inr (7, fs)) (hv : fs[8]? = some v) (hdg : decode cc pc = .ok (.getfield 25, 3)) (kk : W p l e R s m args below meth c H locs cells slots Q (F0 m (pc + 3) ls (v :: rest))) : W p l e R s m args below meth c H locs cells slots Q (F0 m pc ls (.ref (ad k) :: rest)) :=
  q_get (T := T_MD) X hP hk hE rfl in_MD 8 (by decide) w_507 rfl hv hdg kk
theorem p_MD_25 (X : Cx p s m args c cc nL R_MD D tc) (hin : meth.name = "<init>") (hD : va_D A (wW n ad E)) (hP : va_P D vwCl (wW n ad E) H) (hS : va_S A H0 H locs) (hk : k < n) (hE : E k = .inr (7, fs)) (hn : narrow (.array .int) v = v) (hfit : fits (.array .int) v = true) (hl : 8 < fs.length) (hdg : decode cc pc = .ok (.putfield 25, 3))
    (kk : ∀ (H1 : Heap) (locs1 : List Loc), va_D A (wW n ad (va_up E k (.inr (7, fs.set 8 v)))) → va_P D vwCl (wW n ad (va_up E k (.inr (7, fs.set 8 v)))) H1 → va_S A H0 H1 locs1 → W p l e R s m args below meth c H1 locs1 cells slots Q (F0 m (pc + 3) ls rest)) : W p l e R s m args below meth c H locs cells slots Q (F0 m pc ls (v :: .ref (ad k) :: rest)) :=
  q_putF (T := T_MD) ty_MD X hD hP hS hk hE rfl in_MD tok_MD nm_MD 8 (by decide) w_507 rfl rfl hin rfl (by decide +kernel) hn hfit hl hdg kk
theorem g_MD_28 (X : Cx p s m args c cc nL R_MD D tc) (hP : va_P D vwCl (wW n ad E) H) (hk : k < n) (hE : E k = .inr (7, fs)) (hv : fs[9]? = some v) (hdg : decode cc pc = .ok (.getfield 28, 3)) (kk : W p l e R s m args below meth c H locs cells slots Q (F0 m (pc + 3) ls (v :: rest))) : W p l e R s m args below meth c H locs cells slots Q (F0 m pc ls (.ref (ad k) :: rest)) :=
  q_get (T := T_MD) X hP hk hE rfl in_MD 9 (by decide) w_508 rfl hv hdg kk
theorem p_MD_28 (X : Cx p s m args c cc nL R_MD D tc) (hin : meth.name = "<init>") (hD : va_D A (wW n ad E)) (hP : va_P D vwCl (wW n ad E) H) (hS : va_S A H0 H locs) (hk : k < n) (hE : E k = .inr (7, fs)) (hn : narrow (.array .int) v = v) (hfit : fits (.array .int) v = true) (hl : 9 < fs.length) (hdg : decode cc pc = .ok (.putfield 28, 3))
    (kk : ∀ (H1 : Heap) (locs1 : List Loc), va_D A (wW n ad (va_up E k (.inr (7, fs.set 9 v)))) → va_P D vwCl (wW n ad (va_up E k (.inr (7, fs.set 9 v)))) H1 → va_S A H0 H1 locs1 → W p l e R s m args below meth c H1 locs1 cells slots Q (F0 m (pc + 3) ls rest)) : W p l e R s m args below meth c H locs cells slots Q (F0 m pc ls (v :: .ref (ad k) :: rest)) :=
  q_putF (T := T_MD) ty_MD X hD hP hS hk hE rfl in_MD tok_MD nm_MD 9 (by decide) w_508 rfl rfl hin rfl (by decide +kernel) hn hfit hl hdg kk
theorem g_MD_31 (X : Cx p s m args c cc nL R_MD D tc) (hP : va_P D vwCl (wW n ad E) H) (hk : k < n) (hE : E k = .inr (7, fs)) (hv : fs[10]? = some v) (hdg : decode cc pc = .ok (.getfield 31, 3)) (kk : W p l e R s m args below meth c H locs cells slots Q (F0 m (pc + 3) ls (v :: rest))) : W p l e R s m args below meth c H locs cells slots Q (F0 m pc ls (.ref (ad k) :: rest)) :=
  q_get (T := T_MD) X hP hk hE rfl in_MD 10 (by decide) w_509 rfl hv hdg kk
theorem p_MD_31 (X : Cx p s m args c cc nL R_MD D tc) (hin : meth.name = "<init>") (hD : va_D A (wW n ad E)) (hP : va_P D vwCl (wW n ad E) H) (hS : va_S A H0 H locs) (hk : k < n) (hE : E k = .inr (7, fs)) (hn : narrow (.array .int) v = v) (hfit : fits (.array .int) v = true) (hl : 10 < fs.length) (hdg : decode cc pc = .ok (.putfield 31, 3))
    (kk : ∀ (H1 : Heap) (locs1 : List Loc), va_D A (wW n ad (va_up E k (.inr (7, fs.set 10 v)))) → va_P D vwCl (wW n ad (va_up E k (.inr (7, fs.set 10 v)))) H1 → va_S A H0 H1 locs1 → W p l e R s m args below meth c H1 locs1 cells slots Q (F0 m (pc + 3) ls rest)) : W p l e R s m args below meth c H locs cells slots Q (F0 m pc ls (v :: .ref (ad k) :: rest)) :=
  q_putF (T := T_MD) ty_MD X hD hP hS hk hE rfl in_MD tok_MD nm_MD 10 (by decide) w_509 rfl rfl hin rfl (by decide +kernel) hn hfit hl hdg kk
theorem g_MD_34 (X : Cx p s m args c cc nL R_MD D tc) (hP : va_P D vwCl (wW n ad E) H) (hk : k < n) (hE : E k = .inr (7, fs)) (hv : fs[11]? = some v) (hdg : decode cc pc = .ok (.getfield 34, 3)) (kk : W p l e R s m args below meth c H locs cells slots Q (F0 m (pc + 3) ls (v :: rest))) : W p l e R s m args below meth c H locs cells slots Q (F0 m pc ls (.ref (ad k) :: rest)) :=
  q_get (T := T_MD) X hP hk hE rfl in_MD 11 (by decide) w_510 rfl hv hdg kk
theorem p_MD_34 (X : Cx p s m args c cc nL R_MD D tc) (hin : meth.name = "<init>") (hD : va_D A (wW n ad E)) (hP : va_P D vwCl (wW n ad E) H) (hS : va_S A H0 H locs) (hk : k < n) (hE : E k = .inr (7, fs)) (hn : narrow (.array .int) v = v) (hfit : fits (.array .int) v = true) (hl : 11 < fs.length) (hdg : decode cc pc = .ok (.putfield 34, 3))
    (kk : ∀ (H1 : Heap) (locs1 : List Loc), va_D A (wW n ad (va_up E k (.inr (7, fs.set 11 v)))) → va_P D vwCl (wW n ad (va_up E k (.inr (7, fs.set 11 v)))) H1 → va_S A H0 H1 locs1 → W p l e R s m args below meth c H1 locs1 cells slots Q (F0 m (pc + 3) ls rest)) : W p l e R s m args below meth c H locs cells slots Q (F0 m pc ls (v :: .ref (ad k) :: rest)) :=
  q_putF (T := T_MD) ty_MD X hD hP hS hk hE rfl in_MD tok_MD nm_MD 11 (by decide) w_510 rfl rfl hin rfl (by decide +kernel) hn hfit hl hdg kk
theorem g_MD_78 (X : Cx p s m args c cc nL R_MD D tc) (hP : va_P D vwCl (wW n ad E) H) (hk : k < n) (hE : E k = .inr (7, fs)) (hv : fs[12]? = some v) (hdg : decode cc pc = .ok (.getfield 78, 3)) (kk : W p l e R s m args below meth c H locs cells slots Q (F0 m (pc + 3) ls (v :: rest))) : W p l e R s m args below meth c H locs cells slots Q (F0 m pc ls (.ref (ad k) :: rest)) :=
  q_get (T := T_MD) X hP hk hE rfl in_MD 12 (by decide) w_511 rfl hv hdg kk
theorem p_MD_78 (X : Cx p s m args c cc nL R_MD D tc) (hD : va_D A (wW n ad E)) (hP : va_P D vwCl (wW n ad E) H) (hS : va_S A H0 H locs) (hk : k < n) (hE : E k = .inr (7, fs)) (hn : narrow (.int) v = v) (hfit : fits (.int) v = true) (hl : 12 < fs.length) (hdg : decode cc pc = .ok (.putfield 78, 3))
    (kk : ∀ (H1 : Heap) (locs1 : List Loc), va_D A (wW n ad (va_up E k (.inr (7, fs.set 12 v)))) → va_P D vwCl (wW n ad (va_up E k (.inr (7, fs.set 12 v)))) H1 → va_S A H0 H1 locs1 → W p l e R s m args below meth c H1 locs1 cells slots Q (F0 m (pc + 3) ls rest)) : W p l e R s m args below meth c H locs cells slots Q (F0 m pc ls (v :: .ref (ad k) :: rest)) :=
  q_put (T := T_MD) ty_MD X hD hP hS hk hE rfl in_MD tok_MD nm_MD 12 (by decide) w_511 rfl rfl (by decide +kernel) hn hfit hl hdg kk
theorem g_MD_37 (X : Cx p s m args c cc nL R_MD D tc) (hP : va_P D vwCl (wW n ad E) H) (hk : k < n) (hE : E k = .inr (7, fs)) (hv : fs[13]? = some v) (hdg : decode cc pc = .ok (.getfield 37, 3)) (kk : W p l e R s m args below meth c H locs cells slots Q (F0 m (pc + 3) ls (v :: rest))) : W p l e R s m args below meth c H locs cells slots Q (F0 m pc ls (.ref (ad k) :: rest)) :=
  q_get (T := T_MD) X hP hk hE rfl in_MD 13 (by decide) w_512 rfl hv hdg kk
theorem p_MD_37 (X : Cx p s m args c cc nL R_MD D tc) (hin : meth.name = "<init>") (hD : va_D A (wW n ad E)) (hP : va_P D vwCl (wW n ad E) H) (hS : va_S A H0 H locs) (hk : k < n) (hE : E k = .inr (7, fs)) (hn : narrow (.array .int) v = v) (hfit : fits (.array .int) v = true) (hl : 13 < fs.length) (hdg : decode cc pc = .ok (.putfield 37, 3))
    (kk : ∀ (H1 : Heap) (locs1 : List Loc), va_D A (wW n ad (va_up E k (.inr (7, fs.set 13 v)))) → va_P D vwCl (wW n ad (va_up E k (.inr (7, fs.set 13 v)))) H1 → va_S A H0 H1 locs1 → W p l e R s m args below meth c H1 locs1 cells slots Q (F0 m (pc + 3) ls rest)) : W p l e R s m args below meth c H locs cells slots Q (F0 m pc ls (v :: .ref (ad k) :: rest)) :=
  q_putF (T := T_MD) ty_MD X hD hP hS hk hE rfl in_MD tok_MD nm_MD 13 (by decide) w_512 rfl rfl hin rfl (by decide +kernel) hn hfit hl hdg kk
theorem g_MD_40 (X : Cx p s m args c cc nL R_MD D tc) (hP : va_P D vwCl (wW n ad E) H) (hk : k < n) (hE : E k = .inr (7, fs)) (hv : fs[14]? = some v) (hdg : decode cc pc = .ok (.getfield 40, 3)) (kk : W p l e R s m args below meth c H locs cells slots Q (F0 m (pc + 3) ls (v :: rest))) : W p l e R s m args below meth c H locs cells slots Q (F0 m pc ls (.ref (ad k) :: rest)) :=
  q_get (T := T_MD) X hP hk hE rfl in_MD 14 (by decide) w_513 rfl hv hdg kk
theorem p_MD_40 (X : Cx p s m args c cc nL R_MD D tc) (hin : meth.name = "<init>") (hD : va_D A (wW n ad E)) (hP : va_P D vwCl (wW n ad E) H) (hS : va_S A H0 H locs) (hk : k < n) (hE : E k = .inr (7, fs)) (hn : narrow (.array .int) v = v) (hfit : fits (.array .int) v = true) (hl : 14 < fs.length) (hdg : decode cc pc = .ok (.putfield 40, 3))
    (kk : ∀ (H1 : Heap) (locs1 : List Loc), va_D A (wW n ad (va_up E k (.inr (7, fs.set 14 v)))) → va_P D vwCl (wW n ad (va_up E k (.inr (7, fs.set 14 v)))) H1 → va_S A H0 H1 locs1 → W p l e R s m args below meth c H1 locs1 cells slots Q (F0 m (pc + 3) ls rest)) : W p l e R s m args below meth c H locs cells slots Q (F0 m pc ls (v :: .ref (ad k) :: rest)) :=
  q_putF (T := T_MD) ty_MD X hD hP hS hk hE rfl in_MD tok_MD nm_MD 14 (by decide) w_513 rfl rfl hin rfl (by decide +kernel) hn hfit hl hdg kk
theorem g_MD_43 (X : Cx p s m args c cc nL R_MD D tc) (hP : va_P D vwCl (wW n ad E) H) (hk : k < n) (hE : E k = .inr (7, fs)) (hv : fs[15]? = some v) (hdg : decode cc pc = .ok (.getfield 43, 3)) (kk : W p l e R s m args below meth c H locs cells slots Q (F0 m (pc + 3) ls (v :: rest))) : W p l e R s m args below meth c H locs cells slots Q (F0 m pc ls (.ref (ad k) :: rest)) :=
  q_get (T := T_MD) X hP hk hE rfl in_MD 15 (by decide) w_514 rfl hv hdg kk
theorem p_MD_43 (X : Cx p s m args c cc nL R_MD D tc) (hin : meth.name = "<init>") (hD : va_D A (wW n ad E)) (hP : va_P D vwCl (wW n ad E) H) (hS : va_S A H0 H locs) (hk : k < n) (hE : E k = .inr (7, fs)) (hn : narrow (.array .int) v = v) (hfit : fits (.array .int) v = true) (hl : 15 < fs.length) (hdg : decode cc pc = .ok (.putfield 43, 3))
    (kk : ∀ (H1 : Heap) (locs1 : List Loc), va_D A (wW n ad (va_up E k (.inr (7, fs.set 15 v)))) → va_P D vwCl (wW n ad (va_up E k (.inr (7, fs.set 15 v)))) H1 → va_S A H0 H1 locs1 → W p l e R s m args below meth c H1 locs1 cells slots Q (F0 m (pc + 3) ls rest)) : W p l e R s m args below meth c H locs cells slots Q (F0 m pc ls (v :: .ref (ad k) :: rest)) :=
  q_putF (T := T_MD) ty_MD X hD hP hS hk hE rfl in_MD tok_MD nm_MD 15 (by decide) w_514 rfl rfl hin rfl (by decide +kernel) hn hfit hl hdg kk
theorem g_MD_46 (X : Cx p s m args c cc nL R_MD D tc) (hP : va_P D vwCl (wW n ad E) H) (hk : k < n) (hE : E k = .inr (7, fs)) (hv : fs[16]? = some v) (hdg : decode cc pc = .ok (.getfield 46, 3)) (kk : W p l e R s m args below meth c H locs cells slots Q (F0 m (pc + 3) ls (v :: rest))) : W p l e R s m args below meth c H locs cells slots Q (F0 m pc ls (.ref (ad k) :: rest)) :=
  q_get (T := T_MD) X hP hk hE rfl in_MD 16 (by decide) w_515 rfl hv hdg kk
theorem p_MD_46 (X : Cx p s m args c cc nL R_MD D tc) (hin : meth.name = "<init>") (hD : va_D A (wW n ad E)) (hP : va_P D vwCl (wW n ad E) H) (hS : va_S A H0 H locs) (hk : k < n) (hE : E k = .inr (7, fs)) (hn : narrow (.array .boolean) v = v) (hfit : fits (.array .boolean) v = true) (hl : 16 < fs.length) (hdg : decode cc pc = .ok (.putfield 46, 3))
    (kk : ∀ (H1 : Heap) (locs1 : List Loc), va_D A (wW n ad (va_up E k (.inr (7, fs.set 16 v)))) → va_P D vwCl (wW n ad (va_up E k (.inr (7, fs.set 16 v)))) H1 → va_S A H0 H1 locs1 → W p l e R s m args below meth c H1 locs1 cells slots Q (F0 m (pc + 3) ls rest)) : W p l e R s m args below meth c H locs cells slots Q (F0 m pc ls (v :: .ref (ad k) :: rest)) :=
  q_putF (T := T_MD) ty_MD X hD hP hS hk hE rfl in_MD tok_MD nm_MD 16 (by decide) w_515 rfl rfl hin rfl (by decide +kernel) hn hfit hl hdg kk
theorem g_MD_50 (X : Cx p s m args c cc nL R_MD D tc) (hP : va_P D vwCl (wW n ad E) H) (hk : k < n) (hE : E k = .inr (7, fs)) (hv : fs[17]? = some v) (hdg : decode cc pc = .ok (.getfield 50, 3)) (kk : W p l e R s m args below meth c H locs cells slots Q (F0 m (pc + 3) ls (v :: rest))) : W p l e R s m args below meth c H locs cells slots Q (F0 m pc ls (.ref (ad k) :: rest)) :=
  q_get (T := T_MD) X hP hk hE rfl in_MD 17 (by decide) w_516 rfl hv hdg kk
theorem p_MD_50 (X : Cx p s m args c cc nL R_MD D tc) (hin : meth.name = "<init>") (hD : va_D A (wW n ad E)) (hP : va_P D vwCl (wW n ad E) H) (hS : va_S A H0 H locs) (hk : k < n) (hE : E k = .inr (7, fs)) (hn : narrow (.array .long) v = v) (hfit : fits (.array .long) v = true) (hl : 17 < fs.length) (hdg : decode cc pc = .ok (.putfield 50, 3))
    (kk : ∀ (H1 : Heap) (locs1 : List Loc), va_D A (wW n ad (va_up E k (.inr (7, fs.set 17 v)))) → va_P D vwCl (wW n ad (va_up E k (.inr (7, fs.set 17 v)))) H1 → va_S A H0 H1 locs1 → W p l e R s m args below meth c H1 locs1 cells slots Q (F0 m (pc + 3) ls rest)) : W p l e R s m args below meth c H locs cells slots Q (F0 m pc ls (v :: .ref (ad k) :: rest)) :=
  q_putF (T := T_MD) ty_MD X hD hP hS hk hE rfl in_MD tok_MD nm_MD 17 (by decide) w_516 rfl rfl hin rfl (by decide +kernel) hn hfit hl hdg kk
theorem g_MD_54 (X : Cx p s m args c cc nL R_MD D tc) (hP : va_P D vwCl (wW n ad E) H) (hk : k < n) (hE : E k = .inr (7, fs)) (hv : fs[18]? = some v) (hdg : decode cc pc = .ok (.getfield 54, 3)) (kk : W p l e R s m args below meth c H locs cells slots Q (F0 m (pc + 3) ls (v :: rest))) : W p l e R s m args below meth c H locs cells slots Q (F0 m pc ls (.ref (ad k) :: rest)) :=
  q_get (T := T_MD) X hP hk hE rfl in_MD 18 (by decide) w_517 rfl hv hdg kk
theorem p_MD_54 (X : Cx p s m args c cc nL R_MD D tc) (hin : meth.name = "<init>") (hD : va_D A (wW n ad E)) (hP : va_P D vwCl (wW n ad E) H) (hS : va_S A H0 H locs) (hk : k < n) (hE : E k = .inr (7, fs)) (hn : narrow (.array .int) v = v) (hfit : fits (.array .int) v = true) (hl : 18 < fs.length) (hdg : decode cc pc = .ok (.putfield 54, 3))
    (kk : ∀ (H1 : Heap) (locs1 : List Loc), va_D A (wW n ad (va_up E k (.inr (7, fs.set 18 v)))) → va_P D vwCl (wW n ad (va_up E k (.inr (7, fs.set 18 v)))) H1 → va_S A H0 H1 locs1 → W p l e R s m args below meth c H1 locs1 cells slots Q (F0 m (pc + 3) ls rest)) : W p l e R s m args below meth c H locs cells slots Q (F0 m pc ls (v :: .ref (ad k) :: rest)) :=
  q_putF (T := T_MD) ty_MD X hD hP hS hk hE rfl in_MD tok_MD nm_MD 18 (by decide) w_517 rfl rfl hin rfl (by decide +kernel) hn hfit hl hdg kk
theorem g_MD_57 (X : Cx p s m args c cc nL R_MD D tc) (hP : va_P D vwCl (wW n ad E) H) (hk : k < n) (hE : E k = .inr (7, fs)) (hv : fs[19]? = some v) (hdg : decode cc pc = .ok (.getfield 57, 3)) (kk : W p l e R s m args below meth c H locs cells slots Q (F0 m (pc + 3) ls (v :: rest))) : W p l e R s m args below meth c H locs cells slots Q (F0 m pc ls (.ref (ad k) :: rest)) :=
  q_get (T := T_MD) X hP hk hE rfl in_MD 19 (by decide) w_518 rfl hv hdg kk
theorem p_MD_57 (X : Cx p s m args c cc nL R_MD D tc) (hin : meth.name = "<init>") (hD : va_D A (wW n ad E)) (hP : va_P D vwCl (wW n ad E) H) (hS : va_S A H0 H locs) (hk : k < n) (hE : E k = .inr (7, fs)) (hn : narrow (.array .int) v = v) (hfit : fits (.array .int) v = true) (hl : 19 < fs.length) (hdg : decode cc pc = .ok (.putfield 57, 3))
    (kk : ∀ (H1 : Heap) (locs1 : List Loc), va_D A (wW n ad (va_up E k (.inr (7, fs.set 19 v)))) → va_P D vwCl (wW n ad (va_up E k (.inr (7, fs.set 19 v)))) H1 → va_S A H0 H1 locs1 → W p l e R s m args below meth c H1 locs1 cells slots Q (F0 m (pc + 3) ls rest)) : W p l e R s m args below meth c H locs cells slots Q (F0 m pc ls (v :: .ref (ad k) :: rest)) :=
  q_putF (T := T_MD) ty_MD X hD hP hS hk hE rfl in_MD tok_MD nm_MD 19 (by decide) w_518 rfl rfl hin rfl (by decide +kernel) hn hfit hl hdg kk
end FR
end
section
/-! NUMBERS: 0 .. n-1 by a Bool; booleans as ints -/
def wi (t : Int32) (n : Nat) : Bool := decide (0 ≤ t.toInt ∧ t.toInt < n)
def bi (b : Bool) : Int32 := if b = true then 1 else 0
theorem bi_t {b : Bool} (h : ¬ bi b = 0) : b = true := by cases b <;> simp_all [bi]
theorem bi_f {b : Bool} (h : bi b = 0) : b = false := by cases b <;> simp_all [bi]
theorem bi_n (b : Bool) : narrow .boolean (.int (bi b)) = .int (bi b) := by cases b <;> decide
theorem wi_of {t : Int32} {n : Nat} (hn : n < 2 ^ 31) (h : wi t n = true) : ∃ j, j < n ∧ t = nI j := vp_in_of (vp_in_iff.mpr (by simpa [wi] using h)) hn
theorem wi_nI {j n : Nat} (hj : j < n) (hn : n < 2 ^ 31) : wi (nI j) n = true := by
  have := nI_toInt (n := j) (by omega)
  simp [wi, this]
  omega
theorem wi_t {t N : Int32} {n : Nat} (hN : N.toInt = n) (h1 : ¬ t < 0) (h2 : ¬ N ≤ t) : wi t n = true := by
  rw [Int32.lt_iff_toInt_lt, Int32.toInt_zero] at h1
  rw [Int32.le_iff_toInt_le, hN] at h2
  simp [wi]
  omega
theorem wi_f1 {t : Int32} {n : Nat} (h1 : t < 0) : wi t n = false := by
  rw [Int32.lt_iff_toInt_lt, Int32.toInt_zero] at h1
  simp [wi]
  omega
theorem wi_f2 {t N : Int32} {n : Nat} (hN : N.toInt = n) (h2 : N ≤ t) : wi t n = false := by
  rw [Int32.le_iff_toInt_le, hN] at h2
  simp [wi]
  omega
/-- what a names for the op o -/
def nmd (o a : Int32) : Bool := if o = 0 ∨ o = 1 then wi a 8 else if o = 2 ∨ o = 3 then wi a 3 else if o = 4 ∨ o = 5 then wi a 2 else if o = 6 ∨ o = 7 then wi a 5 else true
theorem sw8 {x : Int32} (h : ¬ (x.toInt < 0 ∨ 7 < x.toInt)) : x = 0 ∨ x = 1 ∨ x = 2 ∨ x = 3 ∨ x = 4 ∨ x = 5 ∨ x = 6 ∨ x = 7 := by
  have h1 : ∃ j, j < 8 ∧ x = nI j := vp_in_of (vp_in_iff.mpr ⟨by omega, by omega⟩) (by decide)
  obtain ⟨j, hj, rfl⟩ := h1
  have : j = 0 ∨ j = 1 ∨ j = 2 ∨ j = 3 ∨ j = 4 ∨ j = 5 ∨ j = 6 ∨ j = 7 := by omega
  rcases this with rfl | rfl | rfl | rfl | rfl | rfl | rfl | rfl <;> decide
theorem nmd_hi {x a : Int32} (h : 7 < x.toInt) : nmd x a = true := by
  have h' : ∀ k : Int32, k.toInt ≤ 7 → x ≠ k := fun k hk e => by rw [e] at h; omega
  simp [nmd, h' 0 (by decide), h' 1 (by decide), h' 2 (by decide), h' 3 (by decide), h' 4 (by decide), h' 5 (by decide), h' 6 (by decide), h' 7 (by decide)]
theorem nmd_ne {x a : Int32} (h0 : ¬ x = 0) (h1 : ¬ x = 1) (h2 : ¬ x = 2) (h3 : ¬ x = 3) (h4 : ¬ x = 4) (h5 : ¬ x = 5) (h6 : ¬ x = 6) (h7 : ¬ x = 7) : nmd x a = true := by simp [nmd, h0, h1, h2, h3, h4, h5, h6, h7]
theorem wi13_lo {x : Int32} (h : x.toInt < 0) : wi x 13 = false := by simp [wi]; omega
theorem wi13_hi {x : Int32} (h1 : ¬ x < 8) (h2 : ¬ 12 < x) : wi x 13 = true := by
  rw [Int32.lt_iff_toInt_lt] at h1 h2
  have e1 : (8 : Int32).toInt = 8 := by decide
  have e2 : (12 : Int32).toInt = 12 := by decide
  simp [wi]; omega
theorem wi13_b {x : Int32} (h : 12 < x) : wi x 13 = false := by
  rw [Int32.lt_iff_toInt_lt] at h
  have e2 : (12 : Int32).toInt = 12 := by decide
  simp [wi]; omega
theorem wi_sw {x : Int32} (h : x.toInt < 0 ∨ 7 < x.toInt) (h1 : x < 8) : x.toInt < 0 := by
  rw [Int32.lt_iff_toInt_lt] at h1
  have e1 : (8 : Int32).toInt = 8 := by decide
  omega
theorem wi_sw2 {x : Int32} (h : x.toInt < 0 ∨ 7 < x.toInt) (h1 : ¬ x < 8) : 7 < x.toInt := by
  rw [Int32.lt_iff_toInt_lt] at h1
  have e1 : (8 : Int32).toInt = 8 := by decide
  omega
theorem wi_0 (k : Int32) : wi k 0 = false := by
  have : ¬ (0 ≤ k.toInt ∧ k.toInt < ((0 : Nat) : Int)) := by omega
  exact decide_eq_false this
theorem z_eq {k : Int32} (h1 : ¬ k < 0) (h2 : k ≤ nI 0) : k = 0 := by
  apply Int32.toInt_inj.mp
  rw [Int32.lt_iff_toInt_lt, Int32.toInt_zero] at h1
  rw [Int32.le_iff_toInt_le] at h2
  have : (nI 0).toInt = 0 := by decide
  have h0 : (0 : Int32).toInt = 0 := by decide
  omega
theorem z_ne1 {k : Int32} (h1 : k < 0) : ¬ k = 0 := fun h => by rw [h] at h1; exact absurd h1 (by decide)
theorem z_ne2 {k : Int32} (h1 : ¬ k ≤ nI 0) : ¬ k = 0 := fun h => by rw [h] at h1; exact h1 (by decide)
end
section
theorem dRW_isThread_0 : decode cRW_isThread 0 = .ok (.iload_n 0, 1) := by decide +kernel
theorem dRW_isThread_1 : decode cRW_isThread 1 = .ok (.ifCond .lt 12, 3) := by decide +kernel
theorem dRW_isThread_4 : decode cRW_isThread 4 = .ok (.iload_n 0, 1) := by decide +kernel
theorem dRW_isThread_5 : decode cRW_isThread 5 = .ok (.iconst 5, 1) := by decide +kernel
theorem dRW_isThread_6 : decode cRW_isThread 6 = .ok (.if_icmp .ge 7, 3) := by decide +kernel
theorem dRW_isThread_9 : decode cRW_isThread 9 = .ok (.iconst 1, 1) := by decide +kernel
theorem dRW_isThread_10 : decode cRW_isThread 10 = .ok (.goto 4, 3) := by decide +kernel
theorem dRW_isThread_13 : decode cRW_isThread 13 = .ok (.iconst 0, 1) := by decide +kernel
theorem dRW_isThread_14 : decode cRW_isThread 14 = .ok (.ireturn, 1) := by decide +kernel
theorem dRW_isVariable_0 : decode cRW_isVariable 0 = .ok (.iload_n 0, 1) := by decide +kernel
theorem dRW_isVariable_1 : decode cRW_isVariable 1 = .ok (.ifCond .lt 13, 3) := by decide +kernel
theorem dRW_isVariable_4 : decode cRW_isVariable 4 = .ok (.iload_n 0, 1) := by decide +kernel
theorem dRW_isVariable_5 : decode cRW_isVariable 5 = .ok (.bipush 8, 2) := by decide +kernel
theorem dRW_isVariable_7 : decode cRW_isVariable 7 = .ok (.if_icmp .ge 7, 3) := by decide +kernel
theorem dRW_isVariable_10 : decode cRW_isVariable 10 = .ok (.iconst 1, 1) := by decide +kernel
theorem dRW_isVariable_11 : decode cRW_isVariable 11 = .ok (.goto 4, 3) := by decide +kernel
theorem dRW_isVariable_14 : decode cRW_isVariable 14 = .ok (.iconst 0, 1) := by decide +kernel
theorem dRW_isVariable_15 : decode cRW_isVariable 15 = .ok (.ireturn, 1) := by decide +kernel
theorem dMD_within_0 : decode cMD_within 0 = .ok (.iload_n 0, 1) := by decide +kernel
theorem dMD_within_1 : decode cMD_within 1 = .ok (.ifCond .lt 12, 3) := by decide +kernel
theorem dMD_within_4 : decode cMD_within 4 = .ok (.iload_n 0, 1) := by decide +kernel
theorem dMD_within_5 : decode cMD_within 5 = .ok (.iload_n 1, 1) := by decide +kernel
theorem dMD_within_6 : decode cMD_within 6 = .ok (.if_icmp .ge 7, 3) := by decide +kernel
theorem dMD_within_9 : decode cMD_within 9 = .ok (.iconst 1, 1) := by decide +kernel
theorem dMD_within_10 : decode cMD_within 10 = .ok (.goto 4, 3) := by decide +kernel
theorem dMD_within_13 : decode cMD_within 13 = .ok (.iconst 0, 1) := by decide +kernel
theorem dMD_within_14 : decode cMD_within 14 = .ok (.ireturn, 1) := by decide +kernel
theorem dRW_isNamed_0 : decode cRW_isNamed 0 = .ok (.iload_n 0, 1) := by decide +kernel
theorem dRW_isNamed_1 : decode cRW_isNamed 1 = .ok (.tableswitch 87 0 7 #[47, 47, 52, 52, 67, 67, 82, 82], 47) := by decide +kernel
theorem dRW_isNamed_48 : decode cRW_isNamed 48 = .ok (.iload_n 1, 1) := by decide +kernel
theorem dRW_isNamed_49 : decode cRW_isNamed 49 = .ok (.invokestatic 164, 3) := by decide +kernel
theorem dRW_isNamed_52 : decode cRW_isNamed 52 = .ok (.ireturn, 1) := by decide +kernel
theorem dRW_isNamed_53 : decode cRW_isNamed 53 = .ok (.iload_n 1, 1) := by decide +kernel
theorem dRW_isNamed_54 : decode cRW_isNamed 54 = .ok (.ifCond .lt 12, 3) := by decide +kernel
theorem dRW_isNamed_57 : decode cRW_isNamed 57 = .ok (.iload_n 1, 1) := by decide +kernel
theorem dRW_isNamed_58 : decode cRW_isNamed 58 = .ok (.iconst 3, 1) := by decide +kernel
theorem dRW_isNamed_59 : decode cRW_isNamed 59 = .ok (.if_icmp .ge 7, 3) := by decide +kernel
theorem dRW_isNamed_62 : decode cRW_isNamed 62 = .ok (.iconst 1, 1) := by decide +kernel
theorem dRW_isNamed_63 : decode cRW_isNamed 63 = .ok (.goto 4, 3) := by decide +kernel
theorem dRW_isNamed_66 : decode cRW_isNamed 66 = .ok (.iconst 0, 1) := by decide +kernel
theorem dRW_isNamed_67 : decode cRW_isNamed 67 = .ok (.ireturn, 1) := by decide +kernel
theorem dRW_isNamed_68 : decode cRW_isNamed 68 = .ok (.iload_n 1, 1) := by decide +kernel
theorem dRW_isNamed_69 : decode cRW_isNamed 69 = .ok (.ifCond .lt 12, 3) := by decide +kernel
theorem dRW_isNamed_72 : decode cRW_isNamed 72 = .ok (.iload_n 1, 1) := by decide +kernel
theorem dRW_isNamed_73 : decode cRW_isNamed 73 = .ok (.iconst 2, 1) := by decide +kernel
theorem dRW_isNamed_74 : decode cRW_isNamed 74 = .ok (.if_icmp .ge 7, 3) := by decide +kernel
theorem dRW_isNamed_77 : decode cRW_isNamed 77 = .ok (.iconst 1, 1) := by decide +kernel
theorem dRW_isNamed_78 : decode cRW_isNamed 78 = .ok (.goto 4, 3) := by decide +kernel
theorem dRW_isNamed_81 : decode cRW_isNamed 81 = .ok (.iconst 0, 1) := by decide +kernel
theorem dRW_isNamed_82 : decode cRW_isNamed 82 = .ok (.ireturn, 1) := by decide +kernel
theorem dRW_isNamed_83 : decode cRW_isNamed 83 = .ok (.iload_n 1, 1) := by decide +kernel
theorem dRW_isNamed_84 : decode cRW_isNamed 84 = .ok (.invokestatic 61, 3) := by decide +kernel
theorem dRW_isNamed_87 : decode cRW_isNamed 87 = .ok (.ireturn, 1) := by decide +kernel
theorem dRW_isNamed_88 : decode cRW_isNamed 88 = .ok (.iload_n 0, 1) := by decide +kernel
theorem dRW_isNamed_89 : decode cRW_isNamed 89 = .ok (.bipush 8, 2) := by decide +kernel
theorem dRW_isNamed_91 : decode cRW_isNamed 91 = .ok (.if_icmp .lt 13, 3) := by decide +kernel
theorem dRW_isNamed_94 : decode cRW_isNamed 94 = .ok (.iload_n 0, 1) := by decide +kernel
theorem dRW_isNamed_95 : decode cRW_isNamed 95 = .ok (.bipush 12, 2) := by decide +kernel
theorem dRW_isNamed_97 : decode cRW_isNamed 97 = .ok (.if_icmp .gt 7, 3) := by decide +kernel
theorem dRW_isNamed_100 : decode cRW_isNamed 100 = .ok (.iconst 1, 1) := by decide +kernel
theorem dRW_isNamed_101 : decode cRW_isNamed 101 = .ok (.goto 4, 3) := by decide +kernel
theorem dRW_isNamed_104 : decode cRW_isNamed 104 = .ok (.iconst 0, 1) := by decide +kernel
theorem dRW_isNamed_105 : decode cRW_isNamed 105 = .ok (.ireturn, 1) := by decide +kernel
theorem dMD_names_0 : decode cMD_names 0 = .ok (.iload_n 0, 1) := by decide +kernel
theorem dMD_names_1 : decode cMD_names 1 = .ok (.ifCond .eq 8, 3) := by decide +kernel
theorem dMD_names_4 : decode cMD_names 4 = .ok (.iload_n 0, 1) := by decide +kernel
theorem dMD_names_5 : decode cMD_names 5 = .ok (.iconst 1, 1) := by decide +kernel
theorem dMD_names_6 : decode cMD_names 6 = .ok (.if_icmp .ne 10, 3) := by decide +kernel
theorem dMD_names_9 : decode cMD_names 9 = .ok (.iload_n 1, 1) := by decide +kernel
theorem dMD_names_10 : decode cMD_names 10 = .ok (.bipush 8, 2) := by decide +kernel
theorem dMD_names_12 : decode cMD_names 12 = .ok (.invokestatic 67, 3) := by decide +kernel
theorem dMD_names_15 : decode cMD_names 15 = .ok (.ireturn, 1) := by decide +kernel
theorem dMD_names_16 : decode cMD_names 16 = .ok (.iload_n 0, 1) := by decide +kernel
theorem dMD_names_17 : decode cMD_names 17 = .ok (.iconst 2, 1) := by decide +kernel
theorem dMD_names_18 : decode cMD_names 18 = .ok (.if_icmp .eq 8, 3) := by decide +kernel
theorem dMD_names_21 : decode cMD_names 21 = .ok (.iload_n 0, 1) := by decide +kernel
theorem dMD_names_22 : decode cMD_names 22 = .ok (.iconst 3, 1) := by decide +kernel
theorem dMD_names_23 : decode cMD_names 23 = .ok (.if_icmp .ne 9, 3) := by decide +kernel
theorem dMD_names_26 : decode cMD_names 26 = .ok (.iload_n 1, 1) := by decide +kernel
theorem dMD_names_27 : decode cMD_names 27 = .ok (.iconst 3, 1) := by decide +kernel
theorem dMD_names_28 : decode cMD_names 28 = .ok (.invokestatic 67, 3) := by decide +kernel
theorem dMD_names_31 : decode cMD_names 31 = .ok (.ireturn, 1) := by decide +kernel
theorem dMD_names_32 : decode cMD_names 32 = .ok (.iload_n 0, 1) := by decide +kernel
theorem dMD_names_33 : decode cMD_names 33 = .ok (.iconst 4, 1) := by decide +kernel
theorem dMD_names_34 : decode cMD_names 34 = .ok (.if_icmp .eq 8, 3) := by decide +kernel
theorem dMD_names_37 : decode cMD_names 37 = .ok (.iload_n 0, 1) := by decide +kernel
theorem dMD_names_38 : decode cMD_names 38 = .ok (.iconst 5, 1) := by decide +kernel
theorem dMD_names_39 : decode cMD_names 39 = .ok (.if_icmp .ne 9, 3) := by decide +kernel
theorem dMD_names_42 : decode cMD_names 42 = .ok (.iload_n 1, 1) := by decide +kernel
theorem dMD_names_43 : decode cMD_names 43 = .ok (.iconst 2, 1) := by decide +kernel
theorem dMD_names_44 : decode cMD_names 44 = .ok (.invokestatic 67, 3) := by decide +kernel
theorem dMD_names_47 : decode cMD_names 47 = .ok (.ireturn, 1) := by decide +kernel
theorem dMD_names_48 : decode cMD_names 48 = .ok (.iload_n 0, 1) := by decide +kernel
theorem dMD_names_49 : decode cMD_names 49 = .ok (.bipush 6, 2) := by decide +kernel
theorem dMD_names_51 : decode cMD_names 51 = .ok (.if_icmp .eq 9, 3) := by decide +kernel
theorem dMD_names_54 : decode cMD_names 54 = .ok (.iload_n 0, 1) := by decide +kernel
theorem dMD_names_55 : decode cMD_names 55 = .ok (.bipush 7, 2) := by decide +kernel
theorem dMD_names_57 : decode cMD_names 57 = .ok (.if_icmp .ne 11, 3) := by decide +kernel
theorem dMD_names_60 : decode cMD_names 60 = .ok (.iload_n 1, 1) := by decide +kernel
theorem dMD_names_61 : decode cMD_names 61 = .ok (.iconst 5, 1) := by decide +kernel
theorem dMD_names_62 : decode cMD_names 62 = .ok (.invokestatic 67, 3) := by decide +kernel
theorem dMD_names_65 : decode cMD_names 65 = .ok (.ifCond .eq 7, 3) := by decide +kernel
theorem dMD_names_68 : decode cMD_names 68 = .ok (.iconst 1, 1) := by decide +kernel
theorem dMD_names_69 : decode cMD_names 69 = .ok (.goto 4, 3) := by decide +kernel
theorem dMD_names_72 : decode cMD_names 72 = .ok (.iconst 0, 1) := by decide +kernel
theorem dMD_names_73 : decode cMD_names 73 = .ok (.ireturn, 1) := by decide +kernel
set_option maxHeartbeats 4000000 in
set_option maxRecDepth 100000 in
theorem c_RW_isThread (l : Launch) (D : va_G) (tc : Nat → ClassId) (ad : Nat → Nat) (E : Nat → va_E) (t : Int32)  : Ct l D tc yRW_isThread 0 0 ad E [.int t] (fun o E2 => o = .returned (some (.int (bi (wi t 5)))) ∧ E2 = E) := by
  refine Ct.ofW (cc := cRW_isThread) (maxL := 1) (ret := (some .boolean)) (own := R_RW) (by decide) rfl w_157 (Nat.le_of_ble_eq_true rfl) ?_
  intro p e s m args below meth c ls X hlk hr hD hP hS hl
  have hx := X.1
  have hb := X.2.1
  have hl : lv_has ls 1 [(0, .int t)] := hl
  refine lv_iload_n hx hb dRW_isThread_0 rfl (lv_at hl 0 rfl) ?_
  refine lv_if_lt (tgt := 13) hx hb dRW_isThread_1 rfl (fun h1 => ?_) (fun h1 => ?_)
  · refine lv_iconst (v := 0) hx hb dRW_isThread_13 (by decide) ?_
    exact q_zret X hlk hr (by decide) hP hS dRW_isThread_14 (⟨by rw [(show wi t 5 = false from (by first | exact wi_t (N := 5) (by decide) (by assumption) (by assumption) | exact wi_f1 (by assumption) | exact wi_f2 (N := 5) (by decide) (by assumption)))]; rfl, rfl⟩)
  · refine lv_iload_n hx hb dRW_isThread_4 rfl (lv_at hl 0 rfl) ?_
    refine lv_iconst (v := 5) hx hb dRW_isThread_5 (by decide) ?_
    refine lv_icmp_ge (tgt := 13) hx hb dRW_isThread_6 rfl (fun h6 => ?_) (fun h6 => ?_)
    · refine lv_iconst (v := 0) hx hb dRW_isThread_13 (by decide) ?_
      exact q_zret X hlk hr (by decide) hP hS dRW_isThread_14 (⟨by rw [(show wi t 5 = false from (by first | exact wi_t (N := 5) (by decide) (by assumption) (by assumption) | exact wi_f1 (by assumption) | exact wi_f2 (N := 5) (by decide) (by assumption)))]; rfl, rfl⟩)
    · refine lv_iconst (v := 1) hx hb dRW_isThread_9 (by decide) ?_
      refine lv_goto (tgt := 14) hx hb dRW_isThread_10 rfl ?_
      exact q_zret X hlk hr (by decide) hP hS dRW_isThread_14 (⟨by rw [(show wi t 5 = true from (by first | exact wi_t (N := 5) (by decide) (by assumption) (by assumption) | exact wi_f1 (by assumption) | exact wi_f2 (N := 5) (by decide) (by assumption)))]; rfl, rfl⟩)
set_option maxHeartbeats 4000000 in
set_option maxRecDepth 100000 in
theorem c_RW_isVariable (l : Launch) (D : va_G) (tc : Nat → ClassId) (ad : Nat → Nat) (E : Nat → va_E) (t : Int32)  : Ct l D tc yRW_isVariable 0 0 ad E [.int t] (fun o E2 => o = .returned (some (.int (bi (wi t 8)))) ∧ E2 = E) := by
  refine Ct.ofW (cc := cRW_isVariable) (maxL := 1) (ret := (some .boolean)) (own := R_RW) (by decide) rfl w_167 (Nat.le_of_ble_eq_true rfl) ?_
  intro p e s m args below meth c ls X hlk hr hD hP hS hl
  have hx := X.1
  have hb := X.2.1
  have hl : lv_has ls 1 [(0, .int t)] := hl
  refine lv_iload_n hx hb dRW_isVariable_0 rfl (lv_at hl 0 rfl) ?_
  refine lv_if_lt (tgt := 14) hx hb dRW_isVariable_1 rfl (fun h1 => ?_) (fun h1 => ?_)
  · refine lv_iconst (v := 0) hx hb dRW_isVariable_14 (by decide) ?_
    exact q_zret X hlk hr (by decide) hP hS dRW_isVariable_15 (⟨by rw [(show wi t 8 = false from (by first | exact wi_t (N := 8) (by decide) (by assumption) (by assumption) | exact wi_f1 (by assumption) | exact wi_f2 (N := 8) (by decide) (by assumption)))]; rfl, rfl⟩)
  · refine lv_iload_n hx hb dRW_isVariable_4 rfl (lv_at hl 0 rfl) ?_
    refine lv_bipush (v := 8) hx hb dRW_isVariable_5 (by decide) ?_
    refine lv_icmp_ge (tgt := 14) hx hb dRW_isVariable_7 rfl (fun h7 => ?_) (fun h7 => ?_)
    · refine lv_iconst (v := 0) hx hb dRW_isVariable_14 (by decide) ?_
      exact q_zret X hlk hr (by decide) hP hS dRW_isVariable_15 (⟨by rw [(show wi t 8 = false from (by first | exact wi_t (N := 8) (by decide) (by assumption) (by assumption) | exact wi_f1 (by assumption) | exact wi_f2 (N := 8) (by decide) (by assumption)))]; rfl, rfl⟩)
    · refine lv_iconst (v := 1) hx hb dRW_isVariable_10 (by decide) ?_
      refine lv_goto (tgt := 15) hx hb dRW_isVariable_11 rfl ?_
      exact q_zret X hlk hr (by decide) hP hS dRW_isVariable_15 (⟨by rw [(show wi t 8 = true from (by first | exact wi_t (N := 8) (by decide) (by assumption) (by assumption) | exact wi_f1 (by assumption) | exact wi_f2 (N := 8) (by decide) (by assumption)))]; rfl, rfl⟩)
set_option maxHeartbeats 4000000 in
set_option maxRecDepth 100000 in
theorem c_MD_within (l : Launch) (D : va_G) (tc : Nat → ClassId) (ad : Nat → Nat) (E : Nat → va_E) (t N : Int32) {n : Nat} (hN : N.toInt = n) : Ct l D tc yMD_within 0 0 ad E [.int t, .int N] (fun o E2 => o = .returned (some (.int (bi (wi t n)))) ∧ E2 = E) := by
  refine Ct.ofW (cc := cMD_within) (maxL := 2) (ret := (some .boolean)) (own := R_MD) (by decide) rfl w_551 (Nat.le_of_ble_eq_true rfl) ?_
  intro p e s m args below meth c ls X hlk hr hD hP hS hl
  have hx := X.1
  have hb := X.2.1
  have hl : lv_has ls 2 [(0, .int t), (1, .int N)] := hl
  refine lv_iload_n hx hb dMD_within_0 rfl (lv_at hl 0 rfl) ?_
  refine lv_if_lt (tgt := 13) hx hb dMD_within_1 rfl (fun h1 => ?_) (fun h1 => ?_)
  · refine lv_iconst (v := 0) hx hb dMD_within_13 (by decide) ?_
    exact q_zret X hlk hr (by decide) hP hS dMD_within_14 (⟨by rw [(show wi t n = false from (by first | exact wi_t hN (by assumption) (by assumption) | exact wi_f1 (by assumption) | exact wi_f2 hN (by assumption)))]; rfl, rfl⟩)
  · refine lv_iload_n hx hb dMD_within_4 rfl (lv_at hl 0 rfl) ?_
    refine lv_iload_n hx hb dMD_within_5 rfl (lv_at hl 1 rfl) ?_
    refine lv_icmp_ge (tgt := 13) hx hb dMD_within_6 rfl (fun h6 => ?_) (fun h6 => ?_)
    · refine lv_iconst (v := 0) hx hb dMD_within_13 (by decide) ?_
      exact q_zret X hlk hr (by decide) hP hS dMD_within_14 (⟨by rw [(show wi t n = false from (by first | exact wi_t hN (by assumption) (by assumption) | exact wi_f1 (by assumption) | exact wi_f2 hN (by assumption)))]; rfl, rfl⟩)
    · refine lv_iconst (v := 1) hx hb dMD_within_9 (by decide) ?_
      refine lv_goto (tgt := 14) hx hb dMD_within_10 rfl ?_
      exact q_zret X hlk hr (by decide) hP hS dMD_within_14 (⟨by rw [(show wi t n = true from (by first | exact wi_t hN (by assumption) (by assumption) | exact wi_f1 (by assumption) | exact wi_f2 hN (by assumption)))]; rfl, rfl⟩)
set_option maxHeartbeats 4000000 in
set_option maxRecDepth 100000 in
theorem c_RW_isNamed (l : Launch) (D : va_G) (tc : Nat → ClassId) (ad : Nat → Nat) (E : Nat → va_E) (op a : Int32)  : Ct l D tc yRW_isNamed 1 0 ad E [.int op, .int a] (fun o E2 => o = .returned (some (.int (bi (wi op 13 && nmd op a)))) ∧ E2 = E) := by
  refine Ct.ofW (cc := cRW_isNamed) (maxL := 2) (ret := (some .boolean)) (own := R_RW) (by decide) rfl w_164 (Nat.le_of_ble_eq_true rfl) ?_
  intro p e s m args below meth c ls X hlk hr hD hP hS hl
  have hx := X.1
  have hb := X.2.1
  have hl : lv_has ls 2 [(0, .int op), (1, .int a)] := hl
  refine lv_iload_n hx hb dRW_isNamed_0 rfl (lv_at hl 0 rfl) ?_
  by_cases hsw : op.toInt < 0 ∨ 7 < op.toInt
  · refine lv_tableOut (tgt := 88) hx hb dRW_isNamed_1 hsw rfl ?_
    refine lv_iload_n hx hb dRW_isNamed_88 rfl (lv_at hl 0 rfl) ?_
    refine lv_bipush (v := 8) hx hb dRW_isNamed_89 (by decide) ?_
    refine lv_icmp_lt (tgt := 104) hx hb dRW_isNamed_91 rfl (fun h91 => ?_) (fun h91 => ?_)
    · refine lv_iconst (v := 0) hx hb dRW_isNamed_104 (by decide) ?_
      exact q_zret X hlk hr (by decide) hP hS dRW_isNamed_105 ⟨by rw [wi13_lo (wi_sw hsw h91)]; rfl, rfl⟩
    · refine lv_iload_n hx hb dRW_isNamed_94 rfl (lv_at hl 0 rfl) ?_
      refine lv_bipush (v := 12) hx hb dRW_isNamed_95 (by decide) ?_
      refine lv_icmp_gt (tgt := 104) hx hb dRW_isNamed_97 rfl (fun h97 => ?_) (fun h97 => ?_)
      · refine lv_iconst (v := 0) hx hb dRW_isNamed_104 (by decide) ?_
        exact q_zret X hlk hr (by decide) hP hS dRW_isNamed_105 ⟨by rw [wi13_b h97]; rfl, rfl⟩
      · refine lv_iconst (v := 1) hx hb dRW_isNamed_100 (by decide) ?_
        refine lv_goto (tgt := 105) hx hb dRW_isNamed_101 rfl ?_
        exact q_zret X hlk hr (by decide) hP hS dRW_isNamed_105 ⟨by rw [wi13_hi h91 h97, nmd_hi (wi_sw2 hsw h91)]; rfl, rfl⟩
  · rcases sw8 hsw with rfl | rfl | rfl | rfl | rfl | rfl | rfl | rfl
    · refine lv_tableIn (tgt := 48) hx hb dRW_isNamed_1 (by decide) (by decide) rfl rfl ?_
      refine lv_iload_n hx hb dRW_isNamed_48 rfl (lv_at hl 1 rfl) ?_
      refine x_iE (f := fun k => 0 + k) (x_runS (As := [.int a]) (rest := []) X (c_RW_isVariable l D tc (fun k => ad (0 + k)) (fun k => E (0 + k)) a) rfl rfl (by decide) (by decide) w_167 w_1 w_165 w_166 ry_RW_isVariable (ct_pre X hP hD (fr_lt 0 0 0 (by omega)) (fr_inj 0 0)) ct_blind hl.1 (Nat.le_of_ble_eq_true rfl) dRW_isNamed_49 ⟨Nat.zero_le _, Nat.zero_le _⟩) hD hP hS (fr_lt 0 0 0 (by omega)) (fr_inj 0 0) (fun H locs hD hP hS => ?_)
      exact q_zret X hlk hr (bi_n _) hP hS dRW_isNamed_52 ⟨by rw [show (wi 0 13 && nmd 0 a) = wi a 8 from rfl], rfl⟩
    · refine lv_tableIn (tgt := 48) hx hb dRW_isNamed_1 (by decide) (by decide) rfl rfl ?_
      refine lv_iload_n hx hb dRW_isNamed_48 rfl (lv_at hl 1 rfl) ?_
      refine x_iE (f := fun k => 0 + k) (x_runS (As := [.int a]) (rest := []) X (c_RW_isVariable l D tc (fun k => ad (0 + k)) (fun k => E (0 + k)) a) rfl rfl (by decide) (by decide) w_167 w_1 w_165 w_166 ry_RW_isVariable (ct_pre X hP hD (fr_lt 0 0 0 (by omega)) (fr_inj 0 0)) ct_blind hl.1 (Nat.le_of_ble_eq_true rfl) dRW_isNamed_49 ⟨Nat.zero_le _, Nat.zero_le _⟩) hD hP hS (fr_lt 0 0 0 (by omega)) (fr_inj 0 0) (fun H locs hD hP hS => ?_)
      exact q_zret X hlk hr (bi_n _) hP hS dRW_isNamed_52 ⟨by rw [show (wi 1 13 && nmd 1 a) = wi a 8 from rfl], rfl⟩
    · refine lv_tableIn (tgt := 53) hx hb dRW_isNamed_1 (by decide) (by decide) rfl rfl ?_
      refine lv_iload_n hx hb dRW_isNamed_53 rfl (lv_at hl 1 rfl) ?_
      refine lv_if_lt (tgt := 66) hx hb dRW_isNamed_54 rfl (fun h54 => ?_) (fun h54 => ?_)
      · refine lv_iconst (v := 0) hx hb dRW_isNamed_66 (by decide) ?_
        exact q_zret X hlk hr (by decide) hP hS dRW_isNamed_67 ⟨by rw [show (wi 2 13 && nmd 2 a) = wi a 3 from rfl, (show wi a 3 = false from (by first | exact wi_t (N := 3) (by decide) (by assumption) (by assumption) | exact wi_f1 (by assumption) | exact wi_f2 (N := 3) (by decide) (by assumption)))]; rfl, rfl⟩
      · refine lv_iload_n hx hb dRW_isNamed_57 rfl (lv_at hl 1 rfl) ?_
        refine lv_iconst (v := 3) hx hb dRW_isNamed_58 (by decide) ?_
        refine lv_icmp_ge (tgt := 66) hx hb dRW_isNamed_59 rfl (fun h59 => ?_) (fun h59 => ?_)
        · refine lv_iconst (v := 0) hx hb dRW_isNamed_66 (by decide) ?_
          exact q_zret X hlk hr (by decide) hP hS dRW_isNamed_67 ⟨by rw [show (wi 2 13 && nmd 2 a) = wi a 3 from rfl, (show wi a 3 = false from (by first | exact wi_t (N := 3) (by decide) (by assumption) (by assumption) | exact wi_f1 (by assumption) | exact wi_f2 (N := 3) (by decide) (by assumption)))]; rfl, rfl⟩
        · refine lv_iconst (v := 1) hx hb dRW_isNamed_62 (by decide) ?_
          refine lv_goto (tgt := 67) hx hb dRW_isNamed_63 rfl ?_
          exact q_zret X hlk hr (by decide) hP hS dRW_isNamed_67 ⟨by rw [show (wi 2 13 && nmd 2 a) = wi a 3 from rfl, (show wi a 3 = true from (by first | exact wi_t (N := 3) (by decide) (by assumption) (by assumption) | exact wi_f1 (by assumption) | exact wi_f2 (N := 3) (by decide) (by assumption)))]; rfl, rfl⟩
    · refine lv_tableIn (tgt := 53) hx hb dRW_isNamed_1 (by decide) (by decide) rfl rfl ?_
      refine lv_iload_n hx hb dRW_isNamed_53 rfl (lv_at hl 1 rfl) ?_
      refine lv_if_lt (tgt := 66) hx hb dRW_isNamed_54 rfl (fun h54 => ?_) (fun h54 => ?_)
      · refine lv_iconst (v := 0) hx hb dRW_isNamed_66 (by decide) ?_
        exact q_zret X hlk hr (by decide) hP hS dRW_isNamed_67 ⟨by rw [show (wi 3 13 && nmd 3 a) = wi a 3 from rfl, (show wi a 3 = false from (by first | exact wi_t (N := 3) (by decide) (by assumption) (by assumption) | exact wi_f1 (by assumption) | exact wi_f2 (N := 3) (by decide) (by assumption)))]; rfl, rfl⟩
      · refine lv_iload_n hx hb dRW_isNamed_57 rfl (lv_at hl 1 rfl) ?_
        refine lv_iconst (v := 3) hx hb dRW_isNamed_58 (by decide) ?_
        refine lv_icmp_ge (tgt := 66) hx hb dRW_isNamed_59 rfl (fun h59 => ?_) (fun h59 => ?_)
        · refine lv_iconst (v := 0) hx hb dRW_isNamed_66 (by decide) ?_
          exact q_zret X hlk hr (by decide) hP hS dRW_isNamed_67 ⟨by rw [show (wi 3 13 && nmd 3 a) = wi a 3 from rfl, (show wi a 3 = false from (by first | exact wi_t (N := 3) (by decide) (by assumption) (by assumption) | exact wi_f1 (by assumption) | exact wi_f2 (N := 3) (by decide) (by assumption)))]; rfl, rfl⟩
        · refine lv_iconst (v := 1) hx hb dRW_isNamed_62 (by decide) ?_
          refine lv_goto (tgt := 67) hx hb dRW_isNamed_63 rfl ?_
          exact q_zret X hlk hr (by decide) hP hS dRW_isNamed_67 ⟨by rw [show (wi 3 13 && nmd 3 a) = wi a 3 from rfl, (show wi a 3 = true from (by first | exact wi_t (N := 3) (by decide) (by assumption) (by assumption) | exact wi_f1 (by assumption) | exact wi_f2 (N := 3) (by decide) (by assumption)))]; rfl, rfl⟩
    · refine lv_tableIn (tgt := 68) hx hb dRW_isNamed_1 (by decide) (by decide) rfl rfl ?_
      refine lv_iload_n hx hb dRW_isNamed_68 rfl (lv_at hl 1 rfl) ?_
      refine lv_if_lt (tgt := 81) hx hb dRW_isNamed_69 rfl (fun h69 => ?_) (fun h69 => ?_)
      · refine lv_iconst (v := 0) hx hb dRW_isNamed_81 (by decide) ?_
        exact q_zret X hlk hr (by decide) hP hS dRW_isNamed_82 ⟨by rw [show (wi 4 13 && nmd 4 a) = wi a 2 from rfl, (show wi a 2 = false from (by first | exact wi_t (N := 2) (by decide) (by assumption) (by assumption) | exact wi_f1 (by assumption) | exact wi_f2 (N := 2) (by decide) (by assumption)))]; rfl, rfl⟩
      · refine lv_iload_n hx hb dRW_isNamed_72 rfl (lv_at hl 1 rfl) ?_
        refine lv_iconst (v := 2) hx hb dRW_isNamed_73 (by decide) ?_
        refine lv_icmp_ge (tgt := 81) hx hb dRW_isNamed_74 rfl (fun h74 => ?_) (fun h74 => ?_)
        · refine lv_iconst (v := 0) hx hb dRW_isNamed_81 (by decide) ?_
          exact q_zret X hlk hr (by decide) hP hS dRW_isNamed_82 ⟨by rw [show (wi 4 13 && nmd 4 a) = wi a 2 from rfl, (show wi a 2 = false from (by first | exact wi_t (N := 2) (by decide) (by assumption) (by assumption) | exact wi_f1 (by assumption) | exact wi_f2 (N := 2) (by decide) (by assumption)))]; rfl, rfl⟩
        · refine lv_iconst (v := 1) hx hb dRW_isNamed_77 (by decide) ?_
          refine lv_goto (tgt := 82) hx hb dRW_isNamed_78 rfl ?_
          exact q_zret X hlk hr (by decide) hP hS dRW_isNamed_82 ⟨by rw [show (wi 4 13 && nmd 4 a) = wi a 2 from rfl, (show wi a 2 = true from (by first | exact wi_t (N := 2) (by decide) (by assumption) (by assumption) | exact wi_f1 (by assumption) | exact wi_f2 (N := 2) (by decide) (by assumption)))]; rfl, rfl⟩
    · refine lv_tableIn (tgt := 68) hx hb dRW_isNamed_1 (by decide) (by decide) rfl rfl ?_
      refine lv_iload_n hx hb dRW_isNamed_68 rfl (lv_at hl 1 rfl) ?_
      refine lv_if_lt (tgt := 81) hx hb dRW_isNamed_69 rfl (fun h69 => ?_) (fun h69 => ?_)
      · refine lv_iconst (v := 0) hx hb dRW_isNamed_81 (by decide) ?_
        exact q_zret X hlk hr (by decide) hP hS dRW_isNamed_82 ⟨by rw [show (wi 5 13 && nmd 5 a) = wi a 2 from rfl, (show wi a 2 = false from (by first | exact wi_t (N := 2) (by decide) (by assumption) (by assumption) | exact wi_f1 (by assumption) | exact wi_f2 (N := 2) (by decide) (by assumption)))]; rfl, rfl⟩
      · refine lv_iload_n hx hb dRW_isNamed_72 rfl (lv_at hl 1 rfl) ?_
        refine lv_iconst (v := 2) hx hb dRW_isNamed_73 (by decide) ?_
        refine lv_icmp_ge (tgt := 81) hx hb dRW_isNamed_74 rfl (fun h74 => ?_) (fun h74 => ?_)
        · refine lv_iconst (v := 0) hx hb dRW_isNamed_81 (by decide) ?_
          exact q_zret X hlk hr (by decide) hP hS dRW_isNamed_82 ⟨by rw [show (wi 5 13 && nmd 5 a) = wi a 2 from rfl, (show wi a 2 = false from (by first | exact wi_t (N := 2) (by decide) (by assumption) (by assumption) | exact wi_f1 (by assumption) | exact wi_f2 (N := 2) (by decide) (by assumption)))]; rfl, rfl⟩
        · refine lv_iconst (v := 1) hx hb dRW_isNamed_77 (by decide) ?_
          refine lv_goto (tgt := 82) hx hb dRW_isNamed_78 rfl ?_
          exact q_zret X hlk hr (by decide) hP hS dRW_isNamed_82 ⟨by rw [show (wi 5 13 && nmd 5 a) = wi a 2 from rfl, (show wi a 2 = true from (by first | exact wi_t (N := 2) (by decide) (by assumption) (by assumption) | exact wi_f1 (by assumption) | exact wi_f2 (N := 2) (by decide) (by assumption)))]; rfl, rfl⟩
    · refine lv_tableIn (tgt := 83) hx hb dRW_isNamed_1 (by decide) (by decide) rfl rfl ?_
      refine lv_iload_n hx hb dRW_isNamed_83 rfl (lv_at hl 1 rfl) ?_
      refine x_iE (f := fun k => 0 + k) (x_runS (As := [.int a]) (rest := []) X (c_RW_isThread l D tc (fun k => ad (0 + k)) (fun k => E (0 + k)) a) rfl rfl (by decide) (by decide) w_157 w_1 w_155 w_156 ry_RW_isThread (ct_pre X hP hD (fr_lt 0 0 0 (by omega)) (fr_inj 0 0)) ct_blind hl.1 (Nat.le_of_ble_eq_true rfl) dRW_isNamed_84 ⟨Nat.zero_le _, Nat.zero_le _⟩) hD hP hS (fr_lt 0 0 0 (by omega)) (fr_inj 0 0) (fun H locs hD hP hS => ?_)
      exact q_zret X hlk hr (bi_n _) hP hS dRW_isNamed_87 ⟨by rw [show (wi 6 13 && nmd 6 a) = wi a 5 from rfl], rfl⟩
    · refine lv_tableIn (tgt := 83) hx hb dRW_isNamed_1 (by decide) (by decide) rfl rfl ?_
      refine lv_iload_n hx hb dRW_isNamed_83 rfl (lv_at hl 1 rfl) ?_
      refine x_iE (f := fun k => 0 + k) (x_runS (As := [.int a]) (rest := []) X (c_RW_isThread l D tc (fun k => ad (0 + k)) (fun k => E (0 + k)) a) rfl rfl (by decide) (by decide) w_157 w_1 w_155 w_156 ry_RW_isThread (ct_pre X hP hD (fr_lt 0 0 0 (by omega)) (fr_inj 0 0)) ct_blind hl.1 (Nat.le_of_ble_eq_true rfl) dRW_isNamed_84 ⟨Nat.zero_le _, Nat.zero_le _⟩) hD hP hS (fr_lt 0 0 0 (by omega)) (fr_inj 0 0) (fun H locs hD hP hS => ?_)
      exact q_zret X hlk hr (bi_n _) hP hS dRW_isNamed_87 ⟨by rw [show (wi 7 13 && nmd 7 a) = wi a 5 from rfl], rfl⟩
set_option maxHeartbeats 4000000 in
set_option maxRecDepth 100000 in
theorem c_MD_names (l : Launch) (D : va_G) (tc : Nat → ClassId) (ad : Nat → Nat) (E : Nat → va_E) (op a : Int32)  : Ct l D tc yMD_names 1 0 ad E [.int op, .int a] (fun o E2 => o = .returned (some (.int (bi (nmd op a)))) ∧ E2 = E) := by
  refine Ct.ofW (cc := cMD_names) (maxL := 2) (ret := (some .boolean)) (own := R_MD) (by decide) rfl w_554 (Nat.le_of_ble_eq_true rfl) ?_
  intro p e s m args below meth c ls X hlk hr hD hP hS hl
  have hx := X.1
  have hb := X.2.1
  have hl : lv_has ls 2 [(0, .int op), (1, .int a)] := hl
  refine lv_iload_n hx hb dMD_names_0 rfl (lv_at hl 0 rfl) ?_
  refine lv_if_eq (tgt := 9) hx hb dMD_names_1 rfl (fun h1 => ?_) (fun h1 => ?_)
  · refine lv_iload_n hx hb dMD_names_9 rfl (lv_at hl 1 rfl) ?_
    refine lv_bipush (v := 8) hx hb dMD_names_10 (by decide) ?_
    refine x_iE (f := fun k => 0 + k) (x_runS (As := [.int a, .int 8]) (rest := []) X (c_MD_within l D tc (fun k => ad (0 + k)) (fun k => E (0 + k)) a 8 (n := 8) (by decide)) rfl rfl (by decide) (by decide) w_551 w_9 w_549 w_550 ry_MD_within (ct_pre X hP hD (fr_lt 0 0 0 (by omega)) (fr_inj 0 0)) ct_blind hl.1 (Nat.le_of_ble_eq_true rfl) dMD_names_12 ⟨Nat.zero_le _, Nat.zero_le _⟩) hD hP hS (fr_lt 0 0 0 (by omega)) (fr_inj 0 0) (fun H locs hD hP hS => ?_)
    exact q_zret X hlk hr (bi_n _) hP hS dMD_names_15 ⟨by rw [show nmd op a = wi a 8 from (by simp [nmd, *])], rfl⟩
  · refine lv_iload_n hx hb dMD_names_4 rfl (lv_at hl 0 rfl) ?_
    refine lv_iconst (v := 1) hx hb dMD_names_5 (by decide) ?_
    refine lv_icmp_ne (tgt := 16) hx hb dMD_names_6 rfl (fun h6 => ?_) (fun h6 => ?_)
    · refine lv_iload_n hx hb dMD_names_16 rfl (lv_at hl 0 rfl) ?_
      refine lv_iconst (v := 2) hx hb dMD_names_17 (by decide) ?_
      refine lv_icmp_eq (tgt := 26) hx hb dMD_names_18 rfl (fun h18 => ?_) (fun h18 => ?_)
      · refine lv_iload_n hx hb dMD_names_26 rfl (lv_at hl 1 rfl) ?_
        refine lv_iconst (v := 3) hx hb dMD_names_27 (by decide) ?_
        refine x_iE (f := fun k => 0 + k) (x_runS (As := [.int a, .int 3]) (rest := []) X (c_MD_within l D tc (fun k => ad (0 + k)) (fun k => E (0 + k)) a 3 (n := 3) (by decide)) rfl rfl (by decide) (by decide) w_551 w_9 w_549 w_550 ry_MD_within (ct_pre X hP hD (fr_lt 0 0 0 (by omega)) (fr_inj 0 0)) ct_blind hl.1 (Nat.le_of_ble_eq_true rfl) dMD_names_28 ⟨Nat.zero_le _, Nat.zero_le _⟩) hD hP hS (fr_lt 0 0 0 (by omega)) (fr_inj 0 0) (fun H locs hD hP hS => ?_)
        exact q_zret X hlk hr (bi_n _) hP hS dMD_names_31 ⟨by rw [show nmd op a = wi a 3 from (by simp [nmd, *])], rfl⟩
      · refine lv_iload_n hx hb dMD_names_21 rfl (lv_at hl 0 rfl) ?_
        refine lv_iconst (v := 3) hx hb dMD_names_22 (by decide) ?_
        refine lv_icmp_ne (tgt := 32) hx hb dMD_names_23 rfl (fun h23 => ?_) (fun h23 => ?_)
        · refine lv_iload_n hx hb dMD_names_32 rfl (lv_at hl 0 rfl) ?_
          refine lv_iconst (v := 4) hx hb dMD_names_33 (by decide) ?_
          refine lv_icmp_eq (tgt := 42) hx hb dMD_names_34 rfl (fun h34 => ?_) (fun h34 => ?_)
          · refine lv_iload_n hx hb dMD_names_42 rfl (lv_at hl 1 rfl) ?_
            refine lv_iconst (v := 2) hx hb dMD_names_43 (by decide) ?_
            refine x_iE (f := fun k => 0 + k) (x_runS (As := [.int a, .int 2]) (rest := []) X (c_MD_within l D tc (fun k => ad (0 + k)) (fun k => E (0 + k)) a 2 (n := 2) (by decide)) rfl rfl (by decide) (by decide) w_551 w_9 w_549 w_550 ry_MD_within (ct_pre X hP hD (fr_lt 0 0 0 (by omega)) (fr_inj 0 0)) ct_blind hl.1 (Nat.le_of_ble_eq_true rfl) dMD_names_44 ⟨Nat.zero_le _, Nat.zero_le _⟩) hD hP hS (fr_lt 0 0 0 (by omega)) (fr_inj 0 0) (fun H locs hD hP hS => ?_)
            exact q_zret X hlk hr (bi_n _) hP hS dMD_names_47 ⟨by rw [show nmd op a = wi a 2 from (by simp [nmd, *])], rfl⟩
          · refine lv_iload_n hx hb dMD_names_37 rfl (lv_at hl 0 rfl) ?_
            refine lv_iconst (v := 5) hx hb dMD_names_38 (by decide) ?_
            refine lv_icmp_ne (tgt := 48) hx hb dMD_names_39 rfl (fun h39 => ?_) (fun h39 => ?_)
            · refine lv_iload_n hx hb dMD_names_48 rfl (lv_at hl 0 rfl) ?_
              refine lv_bipush (v := 6) hx hb dMD_names_49 (by decide) ?_
              refine lv_icmp_eq (tgt := 60) hx hb dMD_names_51 rfl (fun h51 => ?_) (fun h51 => ?_)
              · refine lv_iload_n hx hb dMD_names_60 rfl (lv_at hl 1 rfl) ?_
                refine lv_iconst (v := 5) hx hb dMD_names_61 (by decide) ?_
                refine x_iE (f := fun k => 0 + k) (x_runS (As := [.int a, .int 5]) (rest := []) X (c_MD_within l D tc (fun k => ad (0 + k)) (fun k => E (0 + k)) a 5 (n := 5) (by decide)) rfl rfl (by decide) (by decide) w_551 w_9 w_549 w_550 ry_MD_within (ct_pre X hP hD (fr_lt 0 0 0 (by omega)) (fr_inj 0 0)) ct_blind hl.1 (Nat.le_of_ble_eq_true rfl) dMD_names_62 ⟨Nat.zero_le _, Nat.zero_le _⟩) hD hP hS (fr_lt 0 0 0 (by omega)) (fr_inj 0 0) (fun H locs hD hP hS => ?_)
                refine lv_if_eq (tgt := 72) hx hb dMD_names_65 rfl (fun h65 => ?_) (fun h65 => ?_)
                · refine lv_iconst (v := 0) hx hb dMD_names_72 (by decide) ?_
                  exact q_zret X hlk hr (by decide) hP hS dMD_names_73 ⟨by rw [show nmd op a = wi a 5 from (by simp [nmd, *]), bi_f h65]; rfl, rfl⟩
                · refine lv_iconst (v := 1) hx hb dMD_names_68 (by decide) ?_
                  refine lv_goto (tgt := 73) hx hb dMD_names_69 rfl ?_
                  exact q_zret X hlk hr (by decide) hP hS dMD_names_73 ⟨by rw [show nmd op a = wi a 5 from (by simp [nmd, *]), bi_t h65]; rfl, rfl⟩
              · refine lv_iload_n hx hb dMD_names_54 rfl (lv_at hl 0 rfl) ?_
                refine lv_bipush (v := 7) hx hb dMD_names_55 (by decide) ?_
                refine lv_icmp_ne (tgt := 68) hx hb dMD_names_57 rfl (fun h57 => ?_) (fun h57 => ?_)
                · refine lv_iconst (v := 1) hx hb dMD_names_68 (by decide) ?_
                  refine lv_goto (tgt := 73) hx hb dMD_names_69 rfl ?_
                  exact q_zret X hlk hr (by decide) hP hS dMD_names_73 ⟨by rw [nmd_ne h1 h6 h18 h23 h34 h39 h51 h57]; rfl, rfl⟩
                · refine lv_iload_n hx hb dMD_names_60 rfl (lv_at hl 1 rfl) ?_
                  refine lv_iconst (v := 5) hx hb dMD_names_61 (by decide) ?_
                  refine x_iE (f := fun k => 0 + k) (x_runS (As := [.int a, .int 5]) (rest := []) X (c_MD_within l D tc (fun k => ad (0 + k)) (fun k => E (0 + k)) a 5 (n := 5) (by decide)) rfl rfl (by decide) (by decide) w_551 w_9 w_549 w_550 ry_MD_within (ct_pre X hP hD (fr_lt 0 0 0 (by omega)) (fr_inj 0 0)) ct_blind hl.1 (Nat.le_of_ble_eq_true rfl) dMD_names_62 ⟨Nat.zero_le _, Nat.zero_le _⟩) hD hP hS (fr_lt 0 0 0 (by omega)) (fr_inj 0 0) (fun H locs hD hP hS => ?_)
                  refine lv_if_eq (tgt := 72) hx hb dMD_names_65 rfl (fun h65 => ?_) (fun h65 => ?_)
                  · refine lv_iconst (v := 0) hx hb dMD_names_72 (by decide) ?_
                    exact q_zret X hlk hr (by decide) hP hS dMD_names_73 ⟨by rw [show nmd op a = wi a 5 from (by simp [nmd, *]), bi_f h65]; rfl, rfl⟩
                  · refine lv_iconst (v := 1) hx hb dMD_names_68 (by decide) ?_
                    refine lv_goto (tgt := 73) hx hb dMD_names_69 rfl ?_
                    exact q_zret X hlk hr (by decide) hP hS dMD_names_73 ⟨by rw [show nmd op a = wi a 5 from (by simp [nmd, *]), bi_t h65]; rfl, rfl⟩
            · refine lv_iload_n hx hb dMD_names_42 rfl (lv_at hl 1 rfl) ?_
              refine lv_iconst (v := 2) hx hb dMD_names_43 (by decide) ?_
              refine x_iE (f := fun k => 0 + k) (x_runS (As := [.int a, .int 2]) (rest := []) X (c_MD_within l D tc (fun k => ad (0 + k)) (fun k => E (0 + k)) a 2 (n := 2) (by decide)) rfl rfl (by decide) (by decide) w_551 w_9 w_549 w_550 ry_MD_within (ct_pre X hP hD (fr_lt 0 0 0 (by omega)) (fr_inj 0 0)) ct_blind hl.1 (Nat.le_of_ble_eq_true rfl) dMD_names_44 ⟨Nat.zero_le _, Nat.zero_le _⟩) hD hP hS (fr_lt 0 0 0 (by omega)) (fr_inj 0 0) (fun H locs hD hP hS => ?_)
              exact q_zret X hlk hr (bi_n _) hP hS dMD_names_47 ⟨by rw [show nmd op a = wi a 2 from (by simp [nmd, *])], rfl⟩
        · refine lv_iload_n hx hb dMD_names_26 rfl (lv_at hl 1 rfl) ?_
          refine lv_iconst (v := 3) hx hb dMD_names_27 (by decide) ?_
          refine x_iE (f := fun k => 0 + k) (x_runS (As := [.int a, .int 3]) (rest := []) X (c_MD_within l D tc (fun k => ad (0 + k)) (fun k => E (0 + k)) a 3 (n := 3) (by decide)) rfl rfl (by decide) (by decide) w_551 w_9 w_549 w_550 ry_MD_within (ct_pre X hP hD (fr_lt 0 0 0 (by omega)) (fr_inj 0 0)) ct_blind hl.1 (Nat.le_of_ble_eq_true rfl) dMD_names_28 ⟨Nat.zero_le _, Nat.zero_le _⟩) hD hP hS (fr_lt 0 0 0 (by omega)) (fr_inj 0 0) (fun H locs hD hP hS => ?_)
          exact q_zret X hlk hr (bi_n _) hP hS dMD_names_31 ⟨by rw [show nmd op a = wi a 3 from (by simp [nmd, *])], rfl⟩
    · refine lv_iload_n hx hb dMD_names_9 rfl (lv_at hl 1 rfl) ?_
      refine lv_bipush (v := 8) hx hb dMD_names_10 (by decide) ?_
      refine x_iE (f := fun k => 0 + k) (x_runS (As := [.int a, .int 8]) (rest := []) X (c_MD_within l D tc (fun k => ad (0 + k)) (fun k => E (0 + k)) a 8 (n := 8) (by decide)) rfl rfl (by decide) (by decide) w_551 w_9 w_549 w_550 ry_MD_within (ct_pre X hP hD (fr_lt 0 0 0 (by omega)) (fr_inj 0 0)) ct_blind hl.1 (Nat.le_of_ble_eq_true rfl) dMD_names_12 ⟨Nat.zero_le _, Nat.zero_le _⟩) hD hP hS (fr_lt 0 0 0 (by omega)) (fr_inj 0 0) (fun H locs hD hP hS => ?_)
      exact q_zret X hlk hr (bi_n _) hP hS dMD_names_15 ⟨by rw [show nmd op a = wi a 8 from (by simp [nmd, *])], rfl⟩
end
section
theorem dPG_isFull_0 : decode cPG_isFull 0 = .ok (.aload_n 0, 1) := by decide +kernel
theorem dPG_isFull_1 : decode cPG_isFull 1 = .ok (.getfield 21, 3) := by decide +kernel
theorem dPG_isFull_4 : decode cPG_isFull 4 = .ok (.bipush 12, 2) := by decide +kernel
theorem dPG_isFull_6 : decode cPG_isFull 6 = .ok (.if_icmp .lt 7, 3) := by decide +kernel
theorem dPG_isFull_9 : decode cPG_isFull 9 = .ok (.iconst 1, 1) := by decide +kernel
theorem dPG_isFull_10 : decode cPG_isFull 10 = .ok (.goto 4, 3) := by decide +kernel
theorem dPG_isFull_13 : decode cPG_isFull 13 = .ok (.iconst 0, 1) := by decide +kernel
theorem dPG_isFull_14 : decode cPG_isFull 14 = .ok (.ireturn, 1) := by decide +kernel
theorem dPG_append_0 : decode cPG_append 0 = .ok (.aload_n 0, 1) := by decide +kernel
theorem dPG_append_1 : decode cPG_append 1 = .ok (.getfield 21, 3) := by decide +kernel
theorem dPG_append_4 : decode cPG_append 4 = .ok (.istore 4, 2) := by decide +kernel
theorem dPG_append_6 : decode cPG_append 6 = .ok (.aload_n 0, 1) := by decide +kernel
theorem dPG_append_7 : decode cPG_append 7 = .ok (.getfield 9, 3) := by decide +kernel
theorem dPG_append_10 : decode cPG_append 10 = .ok (.iload 4, 2) := by decide +kernel
theorem dPG_append_12 : decode cPG_append 12 = .ok (.iload_n 1, 1) := by decide +kernel
theorem dPG_append_13 : decode cPG_append 13 = .ok (.iastore, 1) := by decide +kernel
theorem dPG_append_14 : decode cPG_append 14 = .ok (.aload_n 0, 1) := by decide +kernel
theorem dPG_append_15 : decode cPG_append 15 = .ok (.getfield 15, 3) := by decide +kernel
theorem dPG_append_18 : decode cPG_append 18 = .ok (.iload 4, 2) := by decide +kernel
theorem dPG_append_20 : decode cPG_append 20 = .ok (.iload_n 2, 1) := by decide +kernel
theorem dPG_append_21 : decode cPG_append 21 = .ok (.iastore, 1) := by decide +kernel
theorem dPG_append_22 : decode cPG_append 22 = .ok (.aload_n 0, 1) := by decide +kernel
theorem dPG_append_23 : decode cPG_append 23 = .ok (.getfield 18, 3) := by decide +kernel
theorem dPG_append_26 : decode cPG_append 26 = .ok (.iload 4, 2) := by decide +kernel
theorem dPG_append_28 : decode cPG_append 28 = .ok (.iload_n 3, 1) := by decide +kernel
theorem dPG_append_29 : decode cPG_append 29 = .ok (.iastore, 1) := by decide +kernel
theorem dPG_append_30 : decode cPG_append 30 = .ok (.aload_n 0, 1) := by decide +kernel
theorem dPG_append_31 : decode cPG_append 31 = .ok (.iload 4, 2) := by decide +kernel
theorem dPG_append_33 : decode cPG_append 33 = .ok (.iconst 1, 1) := by decide +kernel
theorem dPG_append_34 : decode cPG_append 34 = .ok (.iadd, 1) := by decide +kernel
theorem dPG_append_35 : decode cPG_append 35 = .ok (.putfield 21, 3) := by decide +kernel
theorem dPG_append_38 : decode cPG_append 38 = .ok (.iload 4, 2) := by decide +kernel
theorem dPG_append_40 : decode cPG_append 40 = .ok (.ireturn, 1) := by decide +kernel
theorem dPG_forget_0 : decode cPG_forget 0 = .ok (.aload_n 0, 1) := by decide +kernel
theorem dPG_forget_1 : decode cPG_forget 1 = .ok (.iconst 0, 1) := by decide +kernel
theorem dPG_forget_2 : decode cPG_forget 2 = .ok (.putfield 21, 3) := by decide +kernel
theorem dPG_forget_5 : decode cPG_forget 5 = .ok (.return_, 1) := by decide +kernel
theorem dTR_forget_0 : decode cTR_forget 0 = .ok (.aload_n 0, 1) := by decide +kernel
theorem dTR_forget_1 : decode cTR_forget 1 = .ok (.iconst 0, 1) := by decide +kernel
theorem dTR_forget_2 : decode cTR_forget 2 = .ok (.putfield 18, 3) := by decide +kernel
theorem dTR_forget_5 : decode cTR_forget 5 = .ok (.return_, 1) := by decide +kernel
theorem dTR_has_0 : decode cTR_has 0 = .ok (.iload_n 1, 1) := by decide +kernel
theorem dTR_has_1 : decode cTR_has 1 = .ok (.ifCond .lt 15, 3) := by decide +kernel
theorem dTR_has_4 : decode cTR_has 4 = .ok (.iload_n 1, 1) := by decide +kernel
theorem dTR_has_5 : decode cTR_has 5 = .ok (.aload_n 0, 1) := by decide +kernel
theorem dTR_has_6 : decode cTR_has 6 = .ok (.getfield 18, 3) := by decide +kernel
theorem dTR_has_9 : decode cTR_has 9 = .ok (.if_icmp .ge 7, 3) := by decide +kernel
theorem dTR_has_12 : decode cTR_has 12 = .ok (.iconst 1, 1) := by decide +kernel
theorem dTR_has_13 : decode cTR_has 13 = .ok (.goto 4, 3) := by decide +kernel
theorem dTR_has_16 : decode cTR_has 16 = .ok (.iconst 0, 1) := by decide +kernel
theorem dTR_has_17 : decode cTR_has 17 = .ok (.ireturn, 1) := by decide +kernel
theorem dAR_fill_0 : decode cAR_fill 0 = .ok (.iconst 0, 1) := by decide +kernel
theorem dAR_fill_1 : decode cAR_fill 1 = .ok (.istore_n 2, 1) := by decide +kernel
theorem dAR_fill_2 : decode cAR_fill 2 = .ok (.aload_n 0, 1) := by decide +kernel
theorem dAR_fill_3 : decode cAR_fill 3 = .ok (.arraylength, 1) := by decide +kernel
theorem dAR_fill_4 : decode cAR_fill 4 = .ok (.istore_n 3, 1) := by decide +kernel
theorem dAR_fill_5 : decode cAR_fill 5 = .ok (.iload_n 2, 1) := by decide +kernel
theorem dAR_fill_6 : decode cAR_fill 6 = .ok (.iload_n 3, 1) := by decide +kernel
theorem dAR_fill_7 : decode cAR_fill 7 = .ok (.if_icmp .ge 13, 3) := by decide +kernel
theorem dAR_fill_10 : decode cAR_fill 10 = .ok (.aload_n 0, 1) := by decide +kernel
theorem dAR_fill_11 : decode cAR_fill 11 = .ok (.iload_n 2, 1) := by decide +kernel
theorem dAR_fill_12 : decode cAR_fill 12 = .ok (.iload_n 1, 1) := by decide +kernel
theorem dAR_fill_13 : decode cAR_fill 13 = .ok (.iastore, 1) := by decide +kernel
theorem dAR_fill_14 : decode cAR_fill 14 = .ok (.iinc 2 1, 3) := by decide +kernel
theorem dAR_fill_17 : decode cAR_fill 17 = .ok (.goto (-12), 3) := by decide +kernel
theorem dAR_fill_20 : decode cAR_fill 20 = .ok (.return_, 1) := by decide +kernel
set_option maxHeartbeats 4000000 in
set_option maxRecDepth 100000 in
theorem c_PG_isFull (l : Launch) (D : va_G) (tc : Nat → ClassId) (ad : Nat → Nat) (E : Nat → va_E) (sz : Nat) (r1 r2 r3 : Value) (h0 : E 0 = .inr (2, [r1, r2, r3, .int (nI sz)])) (hs : sz ≤ 12) : Ct l D tc yPG_isFull 0 4 ad E [.ref (ad 0)] (fun o E2 => o = .returned (some (.int (bi (decide (12 ≤ sz))))) ∧ E2 = E) := by
  refine Ct.ofW (cc := cPG_isFull) (maxL := 1) (ret := (some .boolean)) (own := R_PG) (by decide) rfl w_161 (Nat.le_of_ble_eq_true rfl) ?_
  intro p e s m args below meth c ls X hlk hr hD hP hS hl
  have hx := X.1
  have hb := X.2.1
  have hl : lv_has ls 1 [(0, .ref (ad 0))] := hl
  refine lv_aload_n hx hb dPG_isFull_0 rfl (lv_at hl 0 rfl) ?_
  refine g_PG_21 X hP (by omega) (h0) rfl dPG_isFull_1 ?_
  refine lv_bipush (v := 12) hx hb dPG_isFull_4 (by decide) ?_
  refine lv_icmp_lt (tgt := 13) hx hb dPG_isFull_6 rfl (fun h6 => ?_) (fun h6 => ?_)
  · refine lv_iconst (v := 0) hx hb dPG_isFull_13 (by decide) ?_
    exact q_zret X hlk hr (by decide) hP hS dPG_isFull_14 (⟨by rw [show decide (12 ≤ sz) = false from (by first | exact decide_eq_true (Nat.not_lt.mp fun q => h6 (nI_lt q (by decide))) | exact decide_eq_false (fun q => nI_nlt q (by omega) h6))]; rfl, rfl⟩)
  · refine lv_iconst (v := 1) hx hb dPG_isFull_9 (by decide) ?_
    refine lv_goto (tgt := 14) hx hb dPG_isFull_10 rfl ?_
    exact q_zret X hlk hr (by decide) hP hS dPG_isFull_14 (⟨by rw [show decide (12 ≤ sz) = true from (by first | exact decide_eq_true (Nat.not_lt.mp fun q => h6 (nI_lt q (by decide))) | exact decide_eq_false (fun q => nI_nlt q (by omega) h6))]; rfl, rfl⟩)
set_option maxHeartbeats 4000000 in
set_option maxRecDepth 100000 in
theorem c_PG_append (l : Launch) (D : va_G) (tc : Nat → ClassId) (ad : Nat → Nat) (E : Nat → va_E) (sz : Nat) (fo fa fb : Nat → Int32) (op a b : Int32) (h0 : E 0 = .inr (2, [.ref (ad 1), .ref (ad 2), .ref (ad 3), .int (nI sz)])) (h1 : E 1 = .inl (tc 0, 12, .inl fo)) (h2 : E 2 = .inl (tc 0, 12, .inl fa)) (h3 : E 3 = .inl (tc 0, 12, .inl fb)) (hs : sz < 12) : Ct l D tc yPG_append 0 4 ad E [.ref (ad 0), .int op, .int a, .int b] (fun o E2 => o = .returned (some (.int (nI sz))) ∧ E2 0 = .inr (2, [.ref (ad 1), .ref (ad 2), .ref (ad 3), .int (nI (sz + 1))]) ∧ E2 1 = .inl (tc 0, 12, .inl (upd fo sz op)) ∧ E2 2 = .inl (tc 0, 12, .inl (upd fa sz a)) ∧ E2 3 = .inl (tc 0, 12, .inl (upd fb sz b))) := by
  refine Ct.ofW (cc := cPG_append) (maxL := 5) (ret := (some .int)) (own := R_PG) (by decide) rfl w_171 (Nat.le_of_ble_eq_true rfl) ?_
  intro p e s m args below meth c ls X hlk hr hD hP hS hl
  have hx := X.1
  have hb := X.2.1
  have hl : lv_has ls 5 [(0, .ref (ad 0)), (1, .int op), (2, .int a), (3, .int b)] := hl
  refine lv_aload_n hx hb dPG_append_0 rfl (lv_at hl 0 rfl) ?_
  refine g_PG_21 X hP (by omega) (h0) rfl dPG_append_1 ?_
  refine lv_istore hx hb dPG_append_4 hl (by decide) rfl (fun ls hl => ?_)
  have hl : lv_has ls 5 [(4, .int (nI sz)), (0, .ref (ad 0)), (1, .int op), (2, .int a), (3, .int b)] := hl
  refine lv_aload_n hx hb dPG_append_6 rfl (lv_at hl 1 rfl) ?_
  refine g_PG_9 X hP (by omega) (h0) rfl dPG_append_7 ?_
  refine lv_iload hx hb dPG_append_10 (lv_at hl 0 rfl) ?_
  refine lv_iload_n hx hb dPG_append_12 rfl (lv_at hl 2 rfl) ?_
  refine q_iast sz X hD hP hS (by omega) (h1) (rfl) (by omega) (by decide) dPG_append_13 (fun H locs hD hP hS => ?_)
  have hP : va_P D vwCl (wW 4 ad (va_up E 1 (.inl (tc 0, 12, .inl (upd fo sz op))))) H := hP
  have hD : va_D (Aw 4 ad) (wW 4 ad (va_up E 1 (.inl (tc 0, 12, .inl (upd fo sz op))))) := hD
  generalize g2 : va_up E 1 (.inl (tc 0, 12, .inl (upd fo sz op))) = E1 at hD hP
  have f3 : E1 0 = .inr (2, [.ref (ad 1), .ref (ad 2), .ref (ad 3), .int (nI sz)]) := by rw [← g2, va_up_ne _ _ (by omega)]; exact h0
  have f4 : E1 1 = .inl (tc 0, 12, .inl (upd fo sz op)) := by rw [← g2]; exact va_up_self _ _ _
  have f5 : E1 2 = .inl (tc 0, 12, .inl fa) := by rw [← g2, va_up_ne _ _ (by omega)]; exact h2
  have f6 : E1 3 = .inl (tc 0, 12, .inl fb) := by rw [← g2, va_up_ne _ _ (by omega)]; exact h3
  refine lv_aload_n hx hb dPG_append_14 rfl (lv_at hl 1 rfl) ?_
  refine g_PG_15 X hP (by omega) (f3) rfl dPG_append_15 ?_
  refine lv_iload hx hb dPG_append_18 (lv_at hl 0 rfl) ?_
  refine lv_iload_n hx hb dPG_append_20 rfl (lv_at hl 3 rfl) ?_
  refine q_iast sz X hD hP hS (by omega) (f5) (rfl) (by omega) (by decide) dPG_append_21 (fun H locs hD hP hS => ?_)
  have hP : va_P D vwCl (wW 4 ad (va_up E1 2 (.inl (tc 0, 12, .inl (upd fa sz a))))) H := hP
  have hD : va_D (Aw 4 ad) (wW 4 ad (va_up E1 2 (.inl (tc 0, 12, .inl (upd fa sz a))))) := hD
  generalize g8 : va_up E1 2 (.inl (tc 0, 12, .inl (upd fa sz a))) = E7 at hD hP
  have f9 : E7 0 = .inr (2, [.ref (ad 1), .ref (ad 2), .ref (ad 3), .int (nI sz)]) := by rw [← g8, va_up_ne _ _ (by omega)]; exact f3
  have f10 : E7 1 = .inl (tc 0, 12, .inl (upd fo sz op)) := by rw [← g8, va_up_ne _ _ (by omega)]; exact f4
  have f11 : E7 2 = .inl (tc 0, 12, .inl (upd fa sz a)) := by rw [← g8]; exact va_up_self _ _ _
  have f12 : E7 3 = .inl (tc 0, 12, .inl fb) := by rw [← g8, va_up_ne _ _ (by omega)]; exact f6
  refine lv_aload_n hx hb dPG_append_22 rfl (lv_at hl 1 rfl) ?_
  refine g_PG_18 X hP (by omega) (f9) rfl dPG_append_23 ?_
  refine lv_iload hx hb dPG_append_26 (lv_at hl 0 rfl) ?_
  refine lv_iload_n hx hb dPG_append_28 rfl (lv_at hl 4 rfl) ?_
  refine q_iast sz X hD hP hS (by omega) (f12) (rfl) (by omega) (by decide) dPG_append_29 (fun H locs hD hP hS => ?_)
  have hP : va_P D vwCl (wW 4 ad (va_up E7 3 (.inl (tc 0, 12, .inl (upd fb sz b))))) H := hP
  have hD : va_D (Aw 4 ad) (wW 4 ad (va_up E7 3 (.inl (tc 0, 12, .inl (upd fb sz b))))) := hD
  generalize g14 : va_up E7 3 (.inl (tc 0, 12, .inl (upd fb sz b))) = E13 at hD hP
  have f15 : E13 0 = .inr (2, [.ref (ad 1), .ref (ad 2), .ref (ad 3), .int (nI sz)]) := by rw [← g14, va_up_ne _ _ (by omega)]; exact f9
  have f16 : E13 1 = .inl (tc 0, 12, .inl (upd fo sz op)) := by rw [← g14, va_up_ne _ _ (by omega)]; exact f10
  have f17 : E13 2 = .inl (tc 0, 12, .inl (upd fa sz a)) := by rw [← g14, va_up_ne _ _ (by omega)]; exact f11
  have f18 : E13 3 = .inl (tc 0, 12, .inl (upd fb sz b)) := by rw [← g14]; exact va_up_self _ _ _
  refine lv_aload_n hx hb dPG_append_30 rfl (lv_at hl 1 rfl) ?_
  refine lv_iload hx hb dPG_append_31 (lv_at hl 0 rfl) ?_
  refine lv_iconst (v := 1) hx hb dPG_append_33 (by decide) ?_
  refine lv_iadd hx hb dPG_append_34 ?_
  rw [show ((nI sz) + 1) = nI (sz + 1) from nI_1 sz]
  refine p_PG_21 X hD hP hS (by omega) (f15) rfl rfl (Nat.le_of_ble_eq_true rfl) dPG_append_35 (fun H locs hD hP hS => ?_)
  have hP : va_P D vwCl (wW 4 ad (va_up E13 0 (.inr (2, [.ref (ad 1), .ref (ad 2), .ref (ad 3), .int (nI (sz + 1))])))) H := hP
  have hD : va_D (Aw 4 ad) (wW 4 ad (va_up E13 0 (.inr (2, [.ref (ad 1), .ref (ad 2), .ref (ad 3), .int (nI (sz + 1))])))) := hD
  generalize g20 : va_up E13 0 (.inr (2, [.ref (ad 1), .ref (ad 2), .ref (ad 3), .int (nI (sz + 1))])) = E19 at hD hP
  have f21 : E19 0 = .inr (2, [.ref (ad 1), .ref (ad 2), .ref (ad 3), .int (nI (sz + 1))]) := by rw [← g20]; exact va_up_self _ _ _
  have f22 : E19 1 = .inl (tc 0, 12, .inl (upd fo sz op)) := by rw [← g20, va_up_ne _ _ (by omega)]; exact f16
  have f23 : E19 2 = .inl (tc 0, 12, .inl (upd fa sz a)) := by rw [← g20, va_up_ne _ _ (by omega)]; exact f17
  have f24 : E19 3 = .inl (tc 0, 12, .inl (upd fb sz b)) := by rw [← g20, va_up_ne _ _ (by omega)]; exact f18
  refine lv_iload hx hb dPG_append_38 (lv_at hl 0 rfl) ?_
  exact q_iret X hlk hr hP hS dPG_append_40 (⟨rfl, f21, f22, f23, f24⟩)
set_option maxHeartbeats 4000000 in
set_option maxRecDepth 100000 in
theorem c_PG_forget (l : Launch) (D : va_G) (tc : Nat → ClassId) (ad : Nat → Nat) (E : Nat → va_E) (sz : Nat) (fo fa fb : Nat → Int32) (h0 : E 0 = .inr (2, [.ref (ad 1), .ref (ad 2), .ref (ad 3), .int (nI sz)])) (h1 : E 1 = .inl (tc 0, 12, .inl fo)) (h2 : E 2 = .inl (tc 0, 12, .inl fa)) (h3 : E 3 = .inl (tc 0, 12, .inl fb)) : Ct l D tc yPG_forget 0 4 ad E [.ref (ad 0)] (fun o E2 => o = .returned none ∧ E2 0 = .inr (2, [.ref (ad 1), .ref (ad 2), .ref (ad 3), .int 0]) ∧ E2 1 = .inl (tc 0, 12, .inl fo) ∧ E2 2 = .inl (tc 0, 12, .inl fa) ∧ E2 3 = .inl (tc 0, 12, .inl fb)) := by
  refine Ct.ofW (cc := cPG_forget) (maxL := 1) (ret := none) (own := R_PG) (by decide) rfl w_179 (Nat.le_of_ble_eq_true rfl) ?_
  intro p e s m args below meth c ls X hlk hr hD hP hS hl
  have hx := X.1
  have hb := X.2.1
  have hl : lv_has ls 1 [(0, .ref (ad 0))] := hl
  refine lv_aload_n hx hb dPG_forget_0 rfl (lv_at hl 0 rfl) ?_
  refine lv_iconst (v := 0) hx hb dPG_forget_1 (by decide) ?_
  refine p_PG_21 X hD hP hS (by omega) (h0) rfl rfl (Nat.le_of_ble_eq_true rfl) dPG_forget_2 (fun H locs hD hP hS => ?_)
  have hP : va_P D vwCl (wW 4 ad (va_up E 0 (.inr (2, [.ref (ad 1), .ref (ad 2), .ref (ad 3), .int 0])))) H := hP
  have hD : va_D (Aw 4 ad) (wW 4 ad (va_up E 0 (.inr (2, [.ref (ad 1), .ref (ad 2), .ref (ad 3), .int 0])))) := hD
  generalize g2 : va_up E 0 (.inr (2, [.ref (ad 1), .ref (ad 2), .ref (ad 3), .int 0])) = E1 at hD hP
  have f3 : E1 0 = .inr (2, [.ref (ad 1), .ref (ad 2), .ref (ad 3), .int 0]) := by rw [← g2]; exact va_up_self _ _ _
  have f4 : E1 1 = .inl (tc 0, 12, .inl fo) := by rw [← g2, va_up_ne _ _ (by omega)]; exact h1
  have f5 : E1 2 = .inl (tc 0, 12, .inl fa) := by rw [← g2, va_up_ne _ _ (by omega)]; exact h2
  have f6 : E1 3 = .inl (tc 0, 12, .inl fb) := by rw [← g2, va_up_ne _ _ (by omega)]; exact h3
  exact q_vret X hlk hr hP hS dPG_forget_5 (⟨rfl, f3, f4, f5, f6⟩)
set_option maxHeartbeats 4000000 in
set_option maxRecDepth 100000 in
theorem c_TR_forget (l : Launch) (D : va_G) (tc : Nat → ClassId) (ad : Nat → Nat) (E : Nat → va_E) (cn : Nat) (fc fk : Nat → Int32) (h0 : E 0 = .inr (4, [.ref (ad 1), .ref (ad 2), .int (nI cn)])) (h1 : E 1 = .inl (tc 0, 200, .inl fc)) (h2 : E 2 = .inl (tc 0, 1000, .inl fk)) : Ct l D tc yTR_forget 0 3 ad E [.ref (ad 0)] (fun o E2 => o = .returned none ∧ E2 0 = .inr (4, [.ref (ad 1), .ref (ad 2), .int 0]) ∧ E2 1 = .inl (tc 0, 200, .inl fc) ∧ E2 2 = .inl (tc 0, 1000, .inl fk)) := by
  refine Ct.ofW (cc := cTR_forget) (maxL := 1) (ret := none) (own := R_TR) (by decide) rfl w_198 (Nat.le_of_ble_eq_true rfl) ?_
  intro p e s m args below meth c ls X hlk hr hD hP hS hl
  have hx := X.1
  have hb := X.2.1
  have hl : lv_has ls 1 [(0, .ref (ad 0))] := hl
  refine lv_aload_n hx hb dTR_forget_0 rfl (lv_at hl 0 rfl) ?_
  refine lv_iconst (v := 0) hx hb dTR_forget_1 (by decide) ?_
  refine p_TR_18 X hD hP hS (by omega) (h0) rfl rfl (Nat.le_of_ble_eq_true rfl) dTR_forget_2 (fun H locs hD hP hS => ?_)
  have hP : va_P D vwCl (wW 3 ad (va_up E 0 (.inr (4, [.ref (ad 1), .ref (ad 2), .int 0])))) H := hP
  have hD : va_D (Aw 3 ad) (wW 3 ad (va_up E 0 (.inr (4, [.ref (ad 1), .ref (ad 2), .int 0])))) := hD
  generalize g2 : va_up E 0 (.inr (4, [.ref (ad 1), .ref (ad 2), .int 0])) = E1 at hD hP
  have f3 : E1 0 = .inr (4, [.ref (ad 1), .ref (ad 2), .int 0]) := by rw [← g2]; exact va_up_self _ _ _
  have f4 : E1 1 = .inl (tc 0, 200, .inl fc) := by rw [← g2, va_up_ne _ _ (by omega)]; exact h1
  have f5 : E1 2 = .inl (tc 0, 1000, .inl fk) := by rw [← g2, va_up_ne _ _ (by omega)]; exact h2
  exact q_vret X hlk hr hP hS dTR_forget_5 (⟨rfl, f3, f4, f5⟩)
set_option maxHeartbeats 4000000 in
set_option maxRecDepth 100000 in
theorem c_TR_has (l : Launch) (D : va_G) (tc : Nat → ClassId) (ad : Nat → Nat) (E : Nat → va_E) (cn : Nat) (r1 r2 : Value) (k : Int32) (h0 : E 0 = .inr (4, [r1, r2, .int (nI cn)])) (hs : cn ≤ 200) : Ct l D tc yTR_has 0 3 ad E [.ref (ad 0), .int k] (fun o E2 => o = .returned (some (.int (bi (wi k cn)))) ∧ E2 = E) := by
  refine Ct.ofW (cc := cTR_has) (maxL := 2) (ret := (some .boolean)) (own := R_TR) (by decide) rfl w_222 (Nat.le_of_ble_eq_true rfl) ?_
  intro p e s m args below meth c ls X hlk hr hD hP hS hl
  have hx := X.1
  have hb := X.2.1
  have hl : lv_has ls 2 [(0, .ref (ad 0)), (1, .int k)] := hl
  have hN : (nI cn).toInt = cn := nI_toInt (by omega)
  refine lv_iload_n hx hb dTR_has_0 rfl (lv_at hl 1 rfl) ?_
  refine lv_if_lt (tgt := 16) hx hb dTR_has_1 rfl (fun h1 => ?_) (fun h1 => ?_)
  · refine lv_iconst (v := 0) hx hb dTR_has_16 (by decide) ?_
    exact q_zret X hlk hr (by decide) hP hS dTR_has_17 (⟨by rw [(show wi k cn = false from (by first | exact wi_t hN (by assumption) (by assumption) | exact wi_f1 (by assumption) | exact wi_f2 hN (by assumption)))]; rfl, rfl⟩)
  · refine lv_iload_n hx hb dTR_has_4 rfl (lv_at hl 1 rfl) ?_
    refine lv_aload_n hx hb dTR_has_5 rfl (lv_at hl 0 rfl) ?_
    refine g_TR_18 X hP (by omega) (h0) rfl dTR_has_6 ?_
    refine lv_icmp_ge (tgt := 16) hx hb dTR_has_9 rfl (fun h9 => ?_) (fun h9 => ?_)
    · refine lv_iconst (v := 0) hx hb dTR_has_16 (by decide) ?_
      exact q_zret X hlk hr (by decide) hP hS dTR_has_17 (⟨by rw [(show wi k cn = false from (by first | exact wi_t hN (by assumption) (by assumption) | exact wi_f1 (by assumption) | exact wi_f2 hN (by assumption)))]; rfl, rfl⟩)
    · refine lv_iconst (v := 1) hx hb dTR_has_12 (by decide) ?_
      refine lv_goto (tgt := 17) hx hb dTR_has_13 rfl ?_
      exact q_zret X hlk hr (by decide) hP hS dTR_has_17 (⟨by rw [(show wi k cn = true from (by first | exact wi_t hN (by assumption) (by assumption) | exact wi_f1 (by assumption) | exact wi_f2 hN (by assumption)))]; rfl, rfl⟩)
set_option maxHeartbeats 4000000 in
set_option maxRecDepth 100000 in
theorem c_AR_fill (l : Launch) (D : va_G) (tc : Nat → ClassId) (ad : Nat → Nat) (E : Nat → va_E) (N : Nat) (f : Nat → Int32) (v : Int32) (h0 : E 0 = .inl (tc 0, N, .inl f)) (hN : N < 2 ^ 31) : Ct l D tc yAR_fill 0 1 ad E [.ref (ad 0), .int v] (fun o E2 => o = .returned none ∧ ∃ g : Nat → Int32, E2 0 = .inl (tc 0, N, .inl g) ∧ ∀ j, j < N → g j = v) := by
  refine Ct.ofW (cc := cAR_fill) (maxL := 4) (ret := none) (own := R_AR) (by decide) rfl w_122 (Nat.le_of_ble_eq_true rfl) ?_
  intro p e s m args below meth c ls X hlk hr hD hP hS hl
  have hx := X.1
  have hb := X.2.1
  have hl : lv_has ls 4 [(0, .ref (ad 0)), (1, .int v)] := hl
  refine lv_iconst (v := 0) hx hb dAR_fill_0 (by decide) ?_
  refine lv_istore_n hx hb dAR_fill_1 rfl hl (by decide) rfl (fun ls hl => ?_)
  have hl : lv_has ls 4 [(2, .int 0), (0, .ref (ad 0)), (1, .int v)] := hl
  refine lv_aload_n hx hb dAR_fill_2 rfl (lv_at hl 1 rfl) ?_
  refine va_alen (D := D) (v := nI N) hx hb X.2.2.2.2.2 hP 0 0 (wW_get (by omega) (h0)) rfl rfl dAR_fill_3 ?_
  refine lv_istore_n hx hb dAR_fill_4 rfl hl (by decide) rfl (fun ls hl => ?_)
  have hl : lv_has ls 4 [(3, .int (nI N)), (2, .int 0), (0, .ref (ad 0)), (1, .int v)] := hl
  have loop : ∀ (r i : Nat) (g : Nat → Int32) (H : Heap) (locs : List Loc) (ls : Array Slot) (F : Nat → va_E), i + r = N → (∀ j, j < i → g j = v) → F 0 = .inl (tc 0, N, .inl g) → va_D (Aw 1 ad) (wW 1 ad F) → va_P D vwCl (wW 1 ad F) H → va_S (Aw 1 ad) s.heap H locs → lv_has ls 4 [(3, .int (nI N)), (2, .int (nI i)), (0, .ref (ad 0)), (1, .int v)] → W p l e (rmD 0) s m args below meth c H locs 0 0 (XQ below (CtQ D 1 ad (fun o E2 => o = .returned none ∧ ∃ g : Nat → Int32, E2 0 = .inl (tc 0, N, .inl g) ∧ ∀ j, j < N → g j = v)) args s 0 0 (Aw 1 ad)) (F0 m 5 ls []) := by
    intro r
    induction r with
    | zero =>
      intro i g H locs ls F hi hg hF hD hP hS hl
      refine lv_iload_n hx hb dAR_fill_5 rfl (lv_at hl 1 rfl) ?_
      refine lv_iload_n hx hb dAR_fill_6 rfl (lv_at hl 0 rfl) ?_
      refine lv_icmp_ge (tgt := 20) hx hb dAR_fill_7 rfl (fun h7 => ?_) (fun h7 => absurd (nI_le (by omega) (by omega)) h7)
      exact q_vret X hlk hr hP hS dAR_fill_20 (⟨rfl, g, hF, fun j hj => hg j (by omega)⟩)
    | succ r ih =>
      intro i g H locs ls F hi hg hF hD hP hS hl
      refine lv_iload_n hx hb dAR_fill_5 rfl (lv_at hl 1 rfl) ?_
      refine lv_iload_n hx hb dAR_fill_6 rfl (lv_at hl 0 rfl) ?_
      refine lv_icmp_ge (tgt := 20) hx hb dAR_fill_7 rfl (fun h7 => absurd h7 (nI_ge (by omega) (by omega))) (fun h7 => ?_)
      refine lv_aload_n hx hb dAR_fill_10 rfl (lv_at hl 2 rfl) ?_
      refine lv_iload_n hx hb dAR_fill_11 rfl (lv_at hl 1 rfl) ?_
      refine lv_iload_n hx hb dAR_fill_12 rfl (lv_at hl 3 rfl) ?_
      refine q_iast i X hD hP hS (by omega) (hF) (rfl) (by omega) (by omega) dAR_fill_13 (fun H locs hD hP hS => ?_)
      have hP : va_P D vwCl (wW 1 ad (va_up F 0 (.inl (tc 0, N, .inl (upd g i v))))) H := hP
      have hD : va_D (Aw 1 ad) (wW 1 ad (va_up F 0 (.inl (tc 0, N, .inl (upd g i v))))) := hD
      generalize g2 : va_up F 0 (.inl (tc 0, N, .inl (upd g i v))) = E1 at hD hP
      have f3 : E1 0 = .inl (tc 0, N, .inl (upd g i v)) := by rw [← g2]; exact va_up_self _ _ _
      refine lv_iinc (k := 1) (v := nI (i + 1)) hx hb dAR_fill_14 hl rfl (nI_1 i) (by decide) rfl (fun ls hl => ?_)
      have hl : lv_has ls 4 [(2, .int (nI (i + 1))), (3, .int (nI N)), (0, .ref (ad 0)), (1, .int v)] := hl
      refine lv_goto (tgt := 5) hx hb dAR_fill_17 rfl ?_
      exact ih (i + 1) _ _ _ _ _ (by omega) (fun j hj => by by_cases h : j = i; (· rw [h]; exact pk_us); (· rw [pk_un h]; exact hg j (by omega))) f3 hD hP hS (lv_sub hl [1, 0, 2, 3] rfl)
  exact loop N 0 f _ _ _ _ (by omega) (fun j hj => absurd hj (Nat.not_lt_zero j)) h0 hD hP hS hl
end
section
/-! SHAPES: the parts of a RaceWatch, each from its first cell on -/
theorem wU_far {m b k : Nat} {F E1 : Nat → va_E} (h : k < b ∨ b + m ≤ k) : wU m (fun k => b + k) F E1 k = F k := wU_off (fun j hj => by show b + j ≠ k; omega)
theorem wU_own {m b : Nat} {F E1 : Nat → va_E} (j : Nat) (hj : j < m) : wU m (fun k => b + k) F E1 (b + j) = E1 j := wU_at (f := fun k => b + k) (fr_inj m b) hj
def isCK (tc : Nat → ClassId) (ad : Nat → Nat) (F : Nat → va_E) (b : Nat) : Prop := F b = .inr (0, [.ref (ad (b + 1))]) ∧ ∃ f : Nat → Int32, F (b + 1) = .inl (tc 0, 5, .inl f)
def isPG (tc : Nat → ClassId) (ad : Nat → Nat) (F : Nat → va_E) (b sz : Nat) (fo fa fb : Nat → Int32) : Prop := F b = .inr (2, [.ref (ad (b + 1)), .ref (ad (b + 2)), .ref (ad (b + 3)), .int (nI sz)]) ∧ F (b + 1) = .inl (tc 0, 12, .inl fo) ∧ F (b + 2) = .inl (tc 0, 12, .inl fa) ∧ F (b + 3) = .inl (tc 0, 12, .inl fb)
def isWK (tc : Nat → ClassId) (ad : Nat → Nat) (F : Nat → va_E) (b : Nat) (ph nx : Int32) (rg : Int64) : Prop := F b = .inr (5, [.ref (ad (b + 1)), .int ph, .int nx, .long rg]) ∧ isCK tc ad F (b + 1)
def isLK (tc : Nat → ClassId) (ad : Nat → Nat) (F : Nat → va_E) (b : Nat) (ow dp : Int32) : Prop := F b = .inr (1, [.ref (ad (b + 1)), .int ow, .int dp]) ∧ isCK tc ad F (b + 1)
def isTR (tc : Nat → ClassId) (ad : Nat → Nat) (F : Nat → va_E) (b cn : Nat) (fc fk : Nat → Int32) : Prop := F b = .inr (4, [.ref (ad (b + 1)), .ref (ad (b + 2)), .int (nI cn)]) ∧ F (b + 1) = .inl (tc 0, 200, .inl fc) ∧ F (b + 2) = .inl (tc 0, 1000, .inl fk)
def isBK (tc : Nat → ClassId) (ad : Nat → Nat) (F : Nat → va_E) (b : Nat) (fr fp fw fd : Nat → Int32) : Prop := F b = .inr (3, [.ref (ad (b + 1)), .ref (ad (b + 2)), .ref (ad (b + 3)), .ref (ad (b + 4))]) ∧ F (b + 1) = .inl (tc 0, 8, .inl fr) ∧ F (b + 2) = .inl (tc 0, 8, .inl fp) ∧ F (b + 3) = .inl (tc 0, 8, .inl fw) ∧ F (b + 4) = .inl (tc 0, 40, .inl fd)
section SHC
variable {tc : Nat → ClassId} {ad : Nat → Nat} {F G : Nat → va_E} {b : Nat}
theorem isCK.cong (h : isCK tc ad F b) (e : ∀ k, b ≤ k → k < b + 2 → G k = F k) : isCK tc ad G b := by
  obtain ⟨h0, f, h1⟩ := h
  exact ⟨by rw [e _ (by omega) (by omega)]; exact h0, f, by rw [e _ (by omega) (by omega)]; exact h1⟩
theorem isPG.cong {sz : Nat} {fo fa fb : Nat → Int32} (h : isPG tc ad F b sz fo fa fb) (e : ∀ k, b ≤ k → k < b + 4 → G k = F k) : isPG tc ad G b sz fo fa fb := by
  obtain ⟨h0, h1, h2, h3⟩ := h
  exact ⟨by rw [e _ (by omega) (by omega)]; exact h0, by rw [e _ (by omega) (by omega)]; exact h1, by rw [e _ (by omega) (by omega)]; exact h2, by rw [e _ (by omega) (by omega)]; exact h3⟩
theorem isWK.cong {ph nx : Int32} {rg : Int64} (h : isWK tc ad F b ph nx rg) (e : ∀ k, b ≤ k → k < b + 3 → G k = F k) : isWK tc ad G b ph nx rg := ⟨by rw [e _ (by omega) (by omega)]; exact h.1, h.2.cong (fun k h1 h2 => e k (by omega) (by omega))⟩
theorem isLK.cong {ow dp : Int32} (h : isLK tc ad F b ow dp) (e : ∀ k, b ≤ k → k < b + 3 → G k = F k) : isLK tc ad G b ow dp := ⟨by rw [e _ (by omega) (by omega)]; exact h.1, h.2.cong (fun k h1 h2 => e k (by omega) (by omega))⟩
theorem isTR.cong {cn : Nat} {fc fk : Nat → Int32} (h : isTR tc ad F b cn fc fk) (e : ∀ k, b ≤ k → k < b + 3 → G k = F k) : isTR tc ad G b cn fc fk := by
  obtain ⟨h0, h1, h2⟩ := h
  exact ⟨by rw [e _ (by omega) (by omega)]; exact h0, by rw [e _ (by omega) (by omega)]; exact h1, by rw [e _ (by omega) (by omega)]; exact h2⟩
theorem isBK.cong {fr fp fw fd : Nat → Int32} (h : isBK tc ad F b fr fp fw fd) (e : ∀ k, b ≤ k → k < b + 5 → G k = F k) : isBK tc ad G b fr fp fw fd := by
  obtain ⟨h0, h1, h2, h3, h4⟩ := h
  exact ⟨by rw [e _ (by omega) (by omega)]; exact h0, by rw [e _ (by omega) (by omega)]; exact h1, by rw [e _ (by omega) (by omega)]; exact h2, by rw [e _ (by omega) (by omega)]; exact h3, by rw [e _ (by omega) (by omega)]; exact h4⟩
end SHC
/-- the outer cells of a RaceWatch: the object, its four arrays -/
def isRW (tc : Nat → ClassId) (ad : Nat → Nat) (F : Nat → va_E) (st cs : Int32) : Prop := F 0 = .inr (6, [.ref (ad 1), .ref (ad 2), .ref (ad 38), .ref (ad 48), .ref (ad 53), .ref (ad 56), .ref (ad 61), .int st, .int cs]) ∧
  (∃ g : Nat → Option Nat, F 1 = .inl (tc 3, 5, .inr (.inr (.inr (.inr g)))) ∧ ∀ t, t < 5 → g t = some (ad (3 + 7 * t))) ∧ (∃ g : Nat → Option Nat, F 2 = .inl (tc 4, 5, .inr (.inr (.inr (.inr g)))) ∧ ∀ t, t < 5 → g t = some (ad (7 + 7 * t))) ∧
  (∃ g : Nat → Option Nat, F 38 = .inl (tc 5, 3, .inr (.inr (.inr (.inr g)))) ∧ ∀ t, t < 3 → g t = some (ad (39 + 3 * t))) ∧ (∃ g : Nat → Option Nat, F 48 = .inl (tc 6, 2, .inr (.inr (.inr (.inr g)))) ∧ ∀ t, t < 2 → g t = some (ad (49 + 2 * t)))
theorem isRW.cong {tc : Nat → ClassId} {ad : Nat → Nat} {F G : Nat → va_E} {st cs : Int32} (h : isRW tc ad F st cs) (e0 : G 0 = F 0) (e1 : G 1 = F 1) (e2 : G 2 = F 2) (e3 : G 38 = F 38) (e4 : G 48 = F 48) : isRW tc ad G st cs := by
  unfold isRW
  rw [e0, e1, e2, e3, e4]
  exact h
/-- any RaceWatch behind its constructor -/
def RWx (tc : Nat → ClassId) (ad : Nat → Nat) (F : Nat → va_E) (st cs : Int32) : Prop := isRW tc ad F st cs ∧ (∀ t, t < 5 → ∃ (sz : Nat) (fo fa fb : Nat → Int32), isPG tc ad F (3 + 7 * t) sz fo fa fb) ∧ (∀ t, t < 5 → ∃ (ph nx : Int32) (rg : Int64), isWK tc ad F (7 + 7 * t) ph nx rg) ∧
  (∀ t, t < 3 → ∃ ow dp : Int32, isLK tc ad F (39 + 3 * t) ow dp) ∧ (∀ t, t < 2 → isCK tc ad F (49 + 2 * t)) ∧ (∃ (cn : Nat) (fc fk : Nat → Int32), isTR tc ad F 53 cn fc fk) ∧ (∃ fr fp fw fd : Nat → Int32, isBK tc ad F 56 fr fp fw fd) ∧ (∃ fr fp fw fd : Nat → Int32, isBK tc ad F 61 fr fp fw fd)
def nonB (tc : Nat → ClassId) (ad : Nat → Nat) (F : Nat → va_E) (b : Nat) : Prop := ∃ fr fp fw fd : Nat → Int32, isBK tc ad F b fr fp fw fd ∧ (∀ j, j < 8 → fr j = -1) ∧ (∀ j, j < 8 → fp j = -1) ∧ (∀ j, j < 8 → fw j = -1) ∧ ∀ j, j < 40 → fd j = -1
theorem nonB.cong {tc : Nat → ClassId} {ad : Nat → Nat} {F G : Nat → va_E} {b : Nat} (h : nonB tc ad F b) (e : ∀ k, b ≤ k → k < b + 5 → G k = F k) : nonB tc ad G b := by
  obtain ⟨fr, fp, fw, fd, h, r⟩ := h
  exact ⟨fr, fp, fw, fd, h.cong e, r⟩
/-- a RaceWatch that is new, or cleared -/
def RWf (tc : Nat → ClassId) (ad : Nat → Nat) (F : Nat → va_E) : Prop := isRW tc ad F 0 0 ∧ (∀ t, t < 5 → ∃ fo fa fb : Nat → Int32, isPG tc ad F (3 + 7 * t) 0 fo fa fb) ∧ (∀ t, t < 5 → isWK tc ad F (7 + 7 * t) 0 0 0) ∧
  (∀ t, t < 3 → isLK tc ad F (39 + 3 * t) (-1) 0) ∧ (∀ t, t < 2 → isCK tc ad F (49 + 2 * t)) ∧ (∃ fc fk : Nat → Int32, isTR tc ad F 53 0 fc fk) ∧ nonB tc ad F 56 ∧ nonB tc ad F 61
theorem RWf.x {tc : Nat → ClassId} {ad : Nat → Nat} {F : Nat → va_E} (h : RWf tc ad F) : RWx tc ad F 0 0 := by
  obtain ⟨h1, h2, h3, h4, h5, ⟨fc, fk, h6⟩, ⟨a1, a2, a3, a4, h7, -⟩, ⟨b1, b2, b3, b4, h8, -⟩⟩ := h
  exact ⟨h1, fun t ht => ⟨0, h2 t ht⟩, fun t ht => ⟨0, 0, 0, h3 t ht⟩, fun t ht => ⟨-1, 0, h4 t ht⟩, h5, ⟨0, fc, fk, h6⟩, ⟨a1, a2, a3, a4, h7⟩, ⟨b1, b2, b3, b4, h8⟩⟩
def addOk (st : Int32) (sz : Nat → Nat) (t op a : Int32) : Bool := decide (st = 0) && (wi t 5 && (decide (sz t.toNatClampNeg < 12) && (wi op 13 && nmd op a)))
end
section
theorem dCK_forget_0 : decode cCK_forget 0 = .ok (.aload_n 0, 1) := by decide +kernel
theorem dCK_forget_1 : decode cCK_forget 1 = .ok (.getfield 9, 3) := by decide +kernel
theorem dCK_forget_4 : decode cCK_forget 4 = .ok (.iconst 0, 1) := by decide +kernel
theorem dCK_forget_5 : decode cCK_forget 5 = .ok (.invokestatic 21, 3) := by decide +kernel
theorem dCK_forget_8 : decode cCK_forget 8 = .ok (.return_, 1) := by decide +kernel
theorem dWK_forget_0 : decode cWK_forget 0 = .ok (.aload_n 0, 1) := by decide +kernel
theorem dWK_forget_1 : decode cWK_forget 1 = .ok (.getfield 12, 3) := by decide +kernel
theorem dWK_forget_4 : decode cWK_forget 4 = .ok (.invokevirtual 37, 3) := by decide +kernel
theorem dWK_forget_7 : decode cWK_forget 7 = .ok (.aload_n 0, 1) := by decide +kernel
theorem dWK_forget_8 : decode cWK_forget 8 = .ok (.iconst 0, 1) := by decide +kernel
theorem dWK_forget_9 : decode cWK_forget 9 = .ok (.putfield 18, 3) := by decide +kernel
theorem dWK_forget_12 : decode cWK_forget 12 = .ok (.aload_n 0, 1) := by decide +kernel
theorem dWK_forget_13 : decode cWK_forget 13 = .ok (.iconst 0, 1) := by decide +kernel
theorem dWK_forget_14 : decode cWK_forget 14 = .ok (.putfield 22, 3) := by decide +kernel
theorem dWK_forget_17 : decode cWK_forget 17 = .ok (.aload_n 0, 1) := by decide +kernel
theorem dWK_forget_18 : decode cWK_forget 18 = .ok (.lconst 0, 1) := by decide +kernel
theorem dWK_forget_19 : decode cWK_forget 19 = .ok (.putfield 25, 3) := by decide +kernel
theorem dWK_forget_22 : decode cWK_forget 22 = .ok (.return_, 1) := by decide +kernel
theorem dLK_forget_0 : decode cLK_forget 0 = .ok (.aload_n 0, 1) := by decide +kernel
theorem dLK_forget_1 : decode cLK_forget 1 = .ok (.getfield 12, 3) := by decide +kernel
theorem dLK_forget_4 : decode cLK_forget 4 = .ok (.invokevirtual 29, 3) := by decide +kernel
theorem dLK_forget_7 : decode cLK_forget 7 = .ok (.aload_n 0, 1) := by decide +kernel
theorem dLK_forget_8 : decode cLK_forget 8 = .ok (.iconst (-1), 1) := by decide +kernel
theorem dLK_forget_9 : decode cLK_forget 9 = .ok (.putfield 18, 3) := by decide +kernel
theorem dLK_forget_12 : decode cLK_forget 12 = .ok (.aload_n 0, 1) := by decide +kernel
theorem dLK_forget_13 : decode cLK_forget 13 = .ok (.iconst 0, 1) := by decide +kernel
theorem dLK_forget_14 : decode cLK_forget 14 = .ok (.putfield 22, 3) := by decide +kernel
theorem dLK_forget_17 : decode cLK_forget 17 = .ok (.return_, 1) := by decide +kernel
theorem dBK_forget_0 : decode cBK_forget 0 = .ok (.aload_n 0, 1) := by decide +kernel
theorem dBK_forget_1 : decode cBK_forget 1 = .ok (.getfield 9, 3) := by decide +kernel
theorem dBK_forget_4 : decode cBK_forget 4 = .ok (.iconst (-1), 1) := by decide +kernel
theorem dBK_forget_5 : decode cBK_forget 5 = .ok (.invokestatic 27, 3) := by decide +kernel
theorem dBK_forget_8 : decode cBK_forget 8 = .ok (.aload_n 0, 1) := by decide +kernel
theorem dBK_forget_9 : decode cBK_forget 9 = .ok (.getfield 15, 3) := by decide +kernel
theorem dBK_forget_12 : decode cBK_forget 12 = .ok (.iconst (-1), 1) := by decide +kernel
theorem dBK_forget_13 : decode cBK_forget 13 = .ok (.invokestatic 27, 3) := by decide +kernel
theorem dBK_forget_16 : decode cBK_forget 16 = .ok (.aload_n 0, 1) := by decide +kernel
theorem dBK_forget_17 : decode cBK_forget 17 = .ok (.getfield 18, 3) := by decide +kernel
theorem dBK_forget_20 : decode cBK_forget 20 = .ok (.iconst (-1), 1) := by decide +kernel
theorem dBK_forget_21 : decode cBK_forget 21 = .ok (.invokestatic 27, 3) := by decide +kernel
theorem dBK_forget_24 : decode cBK_forget 24 = .ok (.aload_n 0, 1) := by decide +kernel
theorem dBK_forget_25 : decode cBK_forget 25 = .ok (.getfield 21, 3) := by decide +kernel
theorem dBK_forget_28 : decode cBK_forget 28 = .ok (.iconst (-1), 1) := by decide +kernel
theorem dBK_forget_29 : decode cBK_forget 29 = .ok (.invokestatic 27, 3) := by decide +kernel
theorem dBK_forget_32 : decode cBK_forget 32 = .ok (.return_, 1) := by decide +kernel
set_option maxHeartbeats 4000000 in
set_option maxRecDepth 100000 in
theorem c_CK_forget (l : Launch) (D : va_G) (tc : Nat → ClassId) (ad : Nat → Nat) (E : Nat → va_E) (f : Nat → Int32) (h0 : E 0 = .inr (0, [.ref (ad 1)])) (h1 : E 1 = .inl (tc 0, 5, .inl f)) : Ct l D tc yCK_forget 1 2 ad E [.ref (ad 0)] (fun o E2 => o = .returned none ∧ E2 0 = .inr (0, [.ref (ad 1)]) ∧ ∃ g : Nat → Int32, E2 1 = .inl (tc 0, 5, .inl g) ∧ ∀ j, j < 5 → g j = 0) := by
  refine Ct.ofW (cc := cCK_forget) (maxL := 1) (ret := none) (own := R_CK) (by decide) rfl w_187 (Nat.le_of_ble_eq_true rfl) ?_
  intro p e s m args below meth c ls X hlk hr hD hP hS hl
  have hx := X.1
  have hb := X.2.1
  have hl : lv_has ls 1 [(0, .ref (ad 0))] := hl
  refine lv_aload_n hx hb dCK_forget_0 rfl (lv_at hl 0 rfl) ?_
  refine g_CK_9 X hP (by omega) (h0) rfl dCK_forget_1 ?_
  refine lv_iconst (v := 0) hx hb dCK_forget_4 (by decide) ?_
  refine x_v (f := fun k => 1 + k) (x_runS (As := [.ref (ad 1), .int 0]) (rest := []) X (c_AR_fill l D tc (fun k => ad (1 + k)) (fun k => E (1 + k)) 5 f 0 (h1) (by decide)) rfl rfl (by decide) (by decide) w_122 w_8 w_188 w_121 ry_AR_fill (ct_pre X hP hD (fr_lt 1 2 1 (by omega)) (fr_inj 1 1)) ct_blind hl.1 (Nat.le_of_ble_eq_true rfl) dCK_forget_5 ⟨Nat.zero_le _, Nat.zero_le _⟩) hD hP hS (fr_lt 1 2 1 (by omega)) (fr_inj 1 1) (fun o E1 h => h.1) (fun E1 H locs q4 hD hP hS => ?_)
  obtain ⟨-, q4g, q40, q41⟩ := q4
  generalize g2 : wU 1 (fun k => 1 + k) E E1 = E3 at hD hP
  have f5 : E3 0 = .inr (0, [.ref (ad 1)]) := by rw [← g2, wU_far (by omega)]; exact h0
  have f6 : E3 1 = .inl (tc 0, 5, .inl q4g) := by rw [← g2]; exact (wU_own 0 (by omega)).trans (q40)
  exact q_vret X hlk hr hP hS dCK_forget_8 (⟨rfl, f5, _, f6, q41⟩)
set_option maxHeartbeats 4000000 in
set_option maxRecDepth 100000 in
theorem c_WK_forget (l : Launch) (D : va_G) (tc : Nat → ClassId) (ad : Nat → Nat) (E : Nat → va_E) (ph nx : Int32) (rg : Int64) (f : Nat → Int32) (h0 : E 0 = .inr (5, [.ref (ad 1), .int ph, .int nx, .long rg])) (h1 : E 1 = .inr (0, [.ref (ad 2)])) (h2 : E 2 = .inl (tc 0, 5, .inl f)) : Ct l D tc yWK_forget 2 3 ad E [.ref (ad 0)] (fun o E2 => o = .returned none ∧ isWK tc ad E2 0 0 0 0) := by
  refine Ct.ofW (cc := cWK_forget) (maxL := 1) (ret := none) (own := R_WK) (by decide) rfl w_183 (Nat.le_of_ble_eq_true rfl) ?_
  intro p e s m args below meth c ls X hlk hr hD hP hS hl
  have hx := X.1
  have hb := X.2.1
  have hl : lv_has ls 1 [(0, .ref (ad 0))] := hl
  refine lv_aload_n hx hb dWK_forget_0 rfl (lv_at hl 0 rfl) ?_
  refine g_WK_12 X hP (by omega) (h0) rfl dWK_forget_1 ?_
  refine x_v (f := fun k => 1 + k) (x_runVN (C := R_CK) (As := []) (rest := []) X (c_CK_forget l D tc (fun k => ad (1 + k)) (fun k => E (1 + k)) f (h1) (h2)) rfl rfl (by decide) (by decide) w_187 w_4 w_184 w_186 sel_CK_forget ry_CK_forget (x_recv X hP (by omega) (h1) rfl) (ct_pre X hP hD (fr_lt 2 3 1 (by omega)) (fr_inj 2 1)) ct_blind hl.1 (Nat.le_of_ble_eq_true rfl) dWK_forget_4 ⟨Nat.zero_le _, Nat.zero_le _⟩) hD hP hS (fr_lt 2 3 1 (by omega)) (fr_inj 2 1) (fun o E1 h => h.1) (fun E1 H locs q4 hD hP hS => ?_)
  obtain ⟨-, q40, q4g, q41, q42⟩ := q4
  generalize g2 : wU 2 (fun k => 1 + k) E E1 = E3 at hD hP
  have f5 : E3 0 = .inr (5, [.ref (ad 1), .int ph, .int nx, .long rg]) := by rw [← g2, wU_far (by omega)]; exact h0
  have f6 : E3 1 = .inr (0, [.ref (ad 2)]) := by rw [← g2]; exact (wU_own 0 (by omega)).trans (q40)
  have f7 : E3 2 = .inl (tc 0, 5, .inl q4g) := by rw [← g2]; exact (wU_own 1 (by omega)).trans (q41)
  refine lv_aload_n hx hb dWK_forget_7 rfl (lv_at hl 0 rfl) ?_
  refine lv_iconst (v := 0) hx hb dWK_forget_8 (by decide) ?_
  refine p_WK_18 X hD hP hS (by omega) (f5) rfl rfl (Nat.le_of_ble_eq_true rfl) dWK_forget_9 (fun H locs hD hP hS => ?_)
  have hP : va_P D vwCl (wW 3 ad (va_up E3 0 (.inr (5, [.ref (ad 1), .int 0, .int nx, .long rg])))) H := hP
  have hD : va_D (Aw 3 ad) (wW 3 ad (va_up E3 0 (.inr (5, [.ref (ad 1), .int 0, .int nx, .long rg])))) := hD
  generalize g9 : va_up E3 0 (.inr (5, [.ref (ad 1), .int 0, .int nx, .long rg])) = E8 at hD hP
  have f10 : E8 0 = .inr (5, [.ref (ad 1), .int 0, .int nx, .long rg]) := by rw [← g9]; exact va_up_self _ _ _
  have f11 : E8 1 = .inr (0, [.ref (ad 2)]) := by rw [← g9, va_up_ne _ _ (by omega)]; exact f6
  have f12 : E8 2 = .inl (tc 0, 5, .inl q4g) := by rw [← g9, va_up_ne _ _ (by omega)]; exact f7
  refine lv_aload_n hx hb dWK_forget_12 rfl (lv_at hl 0 rfl) ?_
  refine lv_iconst (v := 0) hx hb dWK_forget_13 (by decide) ?_
  refine p_WK_22 X hD hP hS (by omega) (f10) rfl rfl (Nat.le_of_ble_eq_true rfl) dWK_forget_14 (fun H locs hD hP hS => ?_)
  have hP : va_P D vwCl (wW 3 ad (va_up E8 0 (.inr (5, [.ref (ad 1), .int 0, .int 0, .long rg])))) H := hP
  have hD : va_D (Aw 3 ad) (wW 3 ad (va_up E8 0 (.inr (5, [.ref (ad 1), .int 0, .int 0, .long rg])))) := hD
  generalize g14 : va_up E8 0 (.inr (5, [.ref (ad 1), .int 0, .int 0, .long rg])) = E13 at hD hP
  have f15 : E13 0 = .inr (5, [.ref (ad 1), .int 0, .int 0, .long rg]) := by rw [← g14]; exact va_up_self _ _ _
  have f16 : E13 1 = .inr (0, [.ref (ad 2)]) := by rw [← g14, va_up_ne _ _ (by omega)]; exact f11
  have f17 : E13 2 = .inl (tc 0, 5, .inl q4g) := by rw [← g14, va_up_ne _ _ (by omega)]; exact f12
  refine lv_aload_n hx hb dWK_forget_17 rfl (lv_at hl 0 rfl) ?_
  refine lv_lconst (v := 0) hx hb dWK_forget_18 (by decide) ?_
  refine p_WK_25 X hD hP hS (by omega) (f15) rfl rfl (Nat.le_of_ble_eq_true rfl) dWK_forget_19 (fun H locs hD hP hS => ?_)
  have hP : va_P D vwCl (wW 3 ad (va_up E13 0 (.inr (5, [.ref (ad 1), .int 0, .int 0, .long 0])))) H := hP
  have hD : va_D (Aw 3 ad) (wW 3 ad (va_up E13 0 (.inr (5, [.ref (ad 1), .int 0, .int 0, .long 0])))) := hD
  generalize g19 : va_up E13 0 (.inr (5, [.ref (ad 1), .int 0, .int 0, .long 0])) = E18 at hD hP
  have f20 : E18 0 = .inr (5, [.ref (ad 1), .int 0, .int 0, .long 0]) := by rw [← g19]; exact va_up_self _ _ _
  have f21 : E18 1 = .inr (0, [.ref (ad 2)]) := by rw [← g19, va_up_ne _ _ (by omega)]; exact f16
  have f22 : E18 2 = .inl (tc 0, 5, .inl q4g) := by rw [← g19, va_up_ne _ _ (by omega)]; exact f17
  exact q_vret X hlk hr hP hS dWK_forget_22 (⟨rfl, f20, f21, _, f22⟩)
set_option maxHeartbeats 4000000 in
set_option maxRecDepth 100000 in
theorem c_LK_forget (l : Launch) (D : va_G) (tc : Nat → ClassId) (ad : Nat → Nat) (E : Nat → va_E) (ow dp : Int32) (f : Nat → Int32) (h0 : E 0 = .inr (1, [.ref (ad 1), .int ow, .int dp])) (h1 : E 1 = .inr (0, [.ref (ad 2)])) (h2 : E 2 = .inl (tc 0, 5, .inl f)) : Ct l D tc yLK_forget 2 3 ad E [.ref (ad 0)] (fun o E2 => o = .returned none ∧ isLK tc ad E2 0 (-1) 0) := by
  refine Ct.ofW (cc := cLK_forget) (maxL := 1) (ret := none) (own := R_LK) (by decide) rfl w_192 (Nat.le_of_ble_eq_true rfl) ?_
  intro p e s m args below meth c ls X hlk hr hD hP hS hl
  have hx := X.1
  have hb := X.2.1
  have hl : lv_has ls 1 [(0, .ref (ad 0))] := hl
  refine lv_aload_n hx hb dLK_forget_0 rfl (lv_at hl 0 rfl) ?_
  refine g_LK_12 X hP (by omega) (h0) rfl dLK_forget_1 ?_
  refine x_v (f := fun k => 1 + k) (x_runVN (C := R_CK) (As := []) (rest := []) X (c_CK_forget l D tc (fun k => ad (1 + k)) (fun k => E (1 + k)) f (h1) (h2)) rfl rfl (by decide) (by decide) w_187 w_4 w_193 w_186 sel_CK_forget ry_CK_forget (x_recv X hP (by omega) (h1) rfl) (ct_pre X hP hD (fr_lt 2 3 1 (by omega)) (fr_inj 2 1)) ct_blind hl.1 (Nat.le_of_ble_eq_true rfl) dLK_forget_4 ⟨Nat.zero_le _, Nat.zero_le _⟩) hD hP hS (fr_lt 2 3 1 (by omega)) (fr_inj 2 1) (fun o E1 h => h.1) (fun E1 H locs q4 hD hP hS => ?_)
  obtain ⟨-, q40, q4g, q41, q42⟩ := q4
  generalize g2 : wU 2 (fun k => 1 + k) E E1 = E3 at hD hP
  have f5 : E3 0 = .inr (1, [.ref (ad 1), .int ow, .int dp]) := by rw [← g2, wU_far (by omega)]; exact h0
  have f6 : E3 1 = .inr (0, [.ref (ad 2)]) := by rw [← g2]; exact (wU_own 0 (by omega)).trans (q40)
  have f7 : E3 2 = .inl (tc 0, 5, .inl q4g) := by rw [← g2]; exact (wU_own 1 (by omega)).trans (q41)
  refine lv_aload_n hx hb dLK_forget_7 rfl (lv_at hl 0 rfl) ?_
  refine lv_iconst (v := (-1)) hx hb dLK_forget_8 (by decide) ?_
  refine p_LK_18 X hD hP hS (by omega) (f5) rfl rfl (Nat.le_of_ble_eq_true rfl) dLK_forget_9 (fun H locs hD hP hS => ?_)
  have hP : va_P D vwCl (wW 3 ad (va_up E3 0 (.inr (1, [.ref (ad 1), .int (-1), .int dp])))) H := hP
  have hD : va_D (Aw 3 ad) (wW 3 ad (va_up E3 0 (.inr (1, [.ref (ad 1), .int (-1), .int dp])))) := hD
  generalize g9 : va_up E3 0 (.inr (1, [.ref (ad 1), .int (-1), .int dp])) = E8 at hD hP
  have f10 : E8 0 = .inr (1, [.ref (ad 1), .int (-1), .int dp]) := by rw [← g9]; exact va_up_self _ _ _
  have f11 : E8 1 = .inr (0, [.ref (ad 2)]) := by rw [← g9, va_up_ne _ _ (by omega)]; exact f6
  have f12 : E8 2 = .inl (tc 0, 5, .inl q4g) := by rw [← g9, va_up_ne _ _ (by omega)]; exact f7
  refine lv_aload_n hx hb dLK_forget_12 rfl (lv_at hl 0 rfl) ?_
  refine lv_iconst (v := 0) hx hb dLK_forget_13 (by decide) ?_
  refine p_LK_22 X hD hP hS (by omega) (f10) rfl rfl (Nat.le_of_ble_eq_true rfl) dLK_forget_14 (fun H locs hD hP hS => ?_)
  have hP : va_P D vwCl (wW 3 ad (va_up E8 0 (.inr (1, [.ref (ad 1), .int (-1), .int 0])))) H := hP
  have hD : va_D (Aw 3 ad) (wW 3 ad (va_up E8 0 (.inr (1, [.ref (ad 1), .int (-1), .int 0])))) := hD
  generalize g14 : va_up E8 0 (.inr (1, [.ref (ad 1), .int (-1), .int 0])) = E13 at hD hP
  have f15 : E13 0 = .inr (1, [.ref (ad 1), .int (-1), .int 0]) := by rw [← g14]; exact va_up_self _ _ _
  have f16 : E13 1 = .inr (0, [.ref (ad 2)]) := by rw [← g14, va_up_ne _ _ (by omega)]; exact f11
  have f17 : E13 2 = .inl (tc 0, 5, .inl q4g) := by rw [← g14, va_up_ne _ _ (by omega)]; exact f12
  exact q_vret X hlk hr hP hS dLK_forget_17 (⟨rfl, f15, f16, _, f17⟩)
set_option maxHeartbeats 4000000 in
set_option maxRecDepth 100000 in
theorem c_BK_forget (l : Launch) (D : va_G) (tc : Nat → ClassId) (ad : Nat → Nat) (E : Nat → va_E) (fr fp fw fd : Nat → Int32) (h0 : E 0 = .inr (3, [.ref (ad 1), .ref (ad 2), .ref (ad 3), .ref (ad 4)])) (h1 : E 1 = .inl (tc 0, 8, .inl fr)) (h2 : E 2 = .inl (tc 0, 8, .inl fp)) (h3 : E 3 = .inl (tc 0, 8, .inl fw)) (h4 : E 4 = .inl (tc 0, 40, .inl fd)) : Ct l D tc yBK_forget 1 5 ad E [.ref (ad 0)] (fun o E2 => o = .returned none ∧ ∃ gr gp gw gd : Nat → Int32, isBK tc ad E2 0 gr gp gw gd ∧ (∀ j, j < 8 → gr j = -1) ∧ (∀ j, j < 8 → gp j = -1) ∧ (∀ j, j < 8 → gw j = -1) ∧ ∀ j, j < 40 → gd j = -1) := by
  refine Ct.ofW (cc := cBK_forget) (maxL := 1) (ret := none) (own := R_BK) (by decide) rfl w_119 (Nat.le_of_ble_eq_true rfl) ?_
  intro p e s m args below meth c ls X hlk hr hD hP hS hl
  have hx := X.1
  have hb := X.2.1
  have hl : lv_has ls 1 [(0, .ref (ad 0))] := hl
  refine lv_aload_n hx hb dBK_forget_0 rfl (lv_at hl 0 rfl) ?_
  refine g_BK_9 X hP (by omega) (h0) rfl dBK_forget_1 ?_
  refine lv_iconst (v := (-1)) hx hb dBK_forget_4 (by decide) ?_
  refine x_v (f := fun k => 1 + k) (x_runS (As := [.ref (ad 1), .int (-1)]) (rest := []) X (c_AR_fill l D tc (fun k => ad (1 + k)) (fun k => E (1 + k)) 8 fr (-1) (h1) (by decide)) rfl rfl (by decide) (by decide) w_122 w_8 w_120 w_121 ry_AR_fill (ct_pre X hP hD (fr_lt 1 5 1 (by omega)) (fr_inj 1 1)) ct_blind hl.1 (Nat.le_of_ble_eq_true rfl) dBK_forget_5 ⟨Nat.zero_le _, Nat.zero_le _⟩) hD hP hS (fr_lt 1 5 1 (by omega)) (fr_inj 1 1) (fun o E1 h => h.1) (fun E1 H locs q4 hD hP hS => ?_)
  obtain ⟨-, q4g, q40, q41⟩ := q4
  generalize g2 : wU 1 (fun k => 1 + k) E E1 = E3 at hD hP
  have f5 : E3 0 = .inr (3, [.ref (ad 1), .ref (ad 2), .ref (ad 3), .ref (ad 4)]) := by rw [← g2, wU_far (by omega)]; exact h0
  have f6 : E3 2 = .inl (tc 0, 8, .inl fp) := by rw [← g2, wU_far (by omega)]; exact h2
  have f7 : E3 3 = .inl (tc 0, 8, .inl fw) := by rw [← g2, wU_far (by omega)]; exact h3
  have f8 : E3 4 = .inl (tc 0, 40, .inl fd) := by rw [← g2, wU_far (by omega)]; exact h4
  have f9 : E3 1 = .inl (tc 0, 8, .inl q4g) := by rw [← g2]; exact (wU_own 0 (by omega)).trans (q40)
  refine lv_aload_n hx hb dBK_forget_8 rfl (lv_at hl 0 rfl) ?_
  refine g_BK_15 X hP (by omega) (f5) rfl dBK_forget_9 ?_
  refine lv_iconst (v := (-1)) hx hb dBK_forget_12 (by decide) ?_
  refine x_v (f := fun k => 2 + k) (x_runS (As := [.ref (ad 2), .int (-1)]) (rest := []) X (c_AR_fill l D tc (fun k => ad (2 + k)) (fun k => E3 (2 + k)) 8 fp (-1) (f6) (by decide)) rfl rfl (by decide) (by decide) w_122 w_8 w_120 w_121 ry_AR_fill (ct_pre X hP hD (fr_lt 1 5 2 (by omega)) (fr_inj 1 2)) ct_blind hl.1 (Nat.le_of_ble_eq_true rfl) dBK_forget_13 ⟨Nat.zero_le _, Nat.zero_le _⟩) hD hP hS (fr_lt 1 5 2 (by omega)) (fr_inj 1 2) (fun o E1 h => h.1) (fun E10 H locs q13 hD hP hS => ?_)
  obtain ⟨-, q13g, q130, q131⟩ := q13
  generalize g11 : wU 1 (fun k => 2 + k) E3 E10 = E12 at hD hP
  have f14 : E12 0 = .inr (3, [.ref (ad 1), .ref (ad 2), .ref (ad 3), .ref (ad 4)]) := by rw [← g11, wU_far (by omega)]; exact f5
  have f15 : E12 3 = .inl (tc 0, 8, .inl fw) := by rw [← g11, wU_far (by omega)]; exact f7
  have f16 : E12 4 = .inl (tc 0, 40, .inl fd) := by rw [← g11, wU_far (by omega)]; exact f8
  have f17 : E12 1 = .inl (tc 0, 8, .inl q4g) := by rw [← g11, wU_far (by omega)]; exact f9
  have f18 : E12 2 = .inl (tc 0, 8, .inl q13g) := by rw [← g11]; exact (wU_own 0 (by omega)).trans (q130)
  refine lv_aload_n hx hb dBK_forget_16 rfl (lv_at hl 0 rfl) ?_
  refine g_BK_18 X hP (by omega) (f14) rfl dBK_forget_17 ?_
  refine lv_iconst (v := (-1)) hx hb dBK_forget_20 (by decide) ?_
  refine x_v (f := fun k => 3 + k) (x_runS (As := [.ref (ad 3), .int (-1)]) (rest := []) X (c_AR_fill l D tc (fun k => ad (3 + k)) (fun k => E12 (3 + k)) 8 fw (-1) (f15) (by decide)) rfl rfl (by decide) (by decide) w_122 w_8 w_120 w_121 ry_AR_fill (ct_pre X hP hD (fr_lt 1 5 3 (by omega)) (fr_inj 1 3)) ct_blind hl.1 (Nat.le_of_ble_eq_true rfl) dBK_forget_21 ⟨Nat.zero_le _, Nat.zero_le _⟩) hD hP hS (fr_lt 1 5 3 (by omega)) (fr_inj 1 3) (fun o E1 h => h.1) (fun E19 H locs q22 hD hP hS => ?_)
  obtain ⟨-, q22g, q220, q221⟩ := q22
  generalize g20 : wU 1 (fun k => 3 + k) E12 E19 = E21 at hD hP
  have f23 : E21 0 = .inr (3, [.ref (ad 1), .ref (ad 2), .ref (ad 3), .ref (ad 4)]) := by rw [← g20, wU_far (by omega)]; exact f14
  have f24 : E21 4 = .inl (tc 0, 40, .inl fd) := by rw [← g20, wU_far (by omega)]; exact f16
  have f25 : E21 1 = .inl (tc 0, 8, .inl q4g) := by rw [← g20, wU_far (by omega)]; exact f17
  have f26 : E21 2 = .inl (tc 0, 8, .inl q13g) := by rw [← g20, wU_far (by omega)]; exact f18
  have f27 : E21 3 = .inl (tc 0, 8, .inl q22g) := by rw [← g20]; exact (wU_own 0 (by omega)).trans (q220)
  refine lv_aload_n hx hb dBK_forget_24 rfl (lv_at hl 0 rfl) ?_
  refine g_BK_21 X hP (by omega) (f23) rfl dBK_forget_25 ?_
  refine lv_iconst (v := (-1)) hx hb dBK_forget_28 (by decide) ?_
  refine x_v (f := fun k => 4 + k) (x_runS (As := [.ref (ad 4), .int (-1)]) (rest := []) X (c_AR_fill l D tc (fun k => ad (4 + k)) (fun k => E21 (4 + k)) 40 fd (-1) (f24) (by decide)) rfl rfl (by decide) (by decide) w_122 w_8 w_120 w_121 ry_AR_fill (ct_pre X hP hD (fr_lt 1 5 4 (by omega)) (fr_inj 1 4)) ct_blind hl.1 (Nat.le_of_ble_eq_true rfl) dBK_forget_29 ⟨Nat.zero_le _, Nat.zero_le _⟩) hD hP hS (fr_lt 1 5 4 (by omega)) (fr_inj 1 4) (fun o E1 h => h.1) (fun E28 H locs q31 hD hP hS => ?_)
  obtain ⟨-, q31g, q310, q311⟩ := q31
  generalize g29 : wU 1 (fun k => 4 + k) E21 E28 = E30 at hD hP
  have f32 : E30 0 = .inr (3, [.ref (ad 1), .ref (ad 2), .ref (ad 3), .ref (ad 4)]) := by rw [← g29, wU_far (by omega)]; exact f23
  have f33 : E30 1 = .inl (tc 0, 8, .inl q4g) := by rw [← g29, wU_far (by omega)]; exact f25
  have f34 : E30 2 = .inl (tc 0, 8, .inl q13g) := by rw [← g29, wU_far (by omega)]; exact f26
  have f35 : E30 3 = .inl (tc 0, 8, .inl q22g) := by rw [← g29, wU_far (by omega)]; exact f27
  have f36 : E30 4 = .inl (tc 0, 40, .inl q31g) := by rw [← g29]; exact (wU_own 0 (by omega)).trans (q310)
  exact q_vret X hlk hr hP hS dBK_forget_32 (⟨rfl, _, _, _, _, ⟨f32, f33, f34, f35, f36⟩, q41, q131, q221, q311⟩)
end
section
theorem dRW_add_0 : decode cRW_add 0 = .ok (.aload_n 0, 1) := by decide +kernel
theorem dRW_add_1 : decode cRW_add 1 = .ok (.getfield 54, 3) := by decide +kernel
theorem dRW_add_4 : decode cRW_add 4 = .ok (.ifCond .ne 30, 3) := by decide +kernel
theorem dRW_add_7 : decode cRW_add 7 = .ok (.iload_n 1, 1) := by decide +kernel
theorem dRW_add_8 : decode cRW_add 8 = .ok (.invokestatic 61, 3) := by decide +kernel
theorem dRW_add_11 : decode cRW_add 11 = .ok (.ifCond .eq 23, 3) := by decide +kernel
theorem dRW_add_14 : decode cRW_add 14 = .ok (.aload_n 0, 1) := by decide +kernel
theorem dRW_add_15 : decode cRW_add 15 = .ok (.getfield 11, 3) := by decide +kernel
theorem dRW_add_18 : decode cRW_add 18 = .ok (.iload_n 1, 1) := by decide +kernel
theorem dRW_add_19 : decode cRW_add 19 = .ok (.aaload, 1) := by decide +kernel
theorem dRW_add_20 : decode cRW_add 20 = .ok (.invokevirtual 65, 3) := by decide +kernel
theorem dRW_add_23 : decode cRW_add 23 = .ok (.ifCond .ne 11, 3) := by decide +kernel
theorem dRW_add_26 : decode cRW_add 26 = .ok (.iload_n 2, 1) := by decide +kernel
theorem dRW_add_27 : decode cRW_add 27 = .ok (.iload_n 3, 1) := by decide +kernel
theorem dRW_add_28 : decode cRW_add 28 = .ok (.invokestatic 69, 3) := by decide +kernel
theorem dRW_add_31 : decode cRW_add 31 = .ok (.ifCond .ne 5, 3) := by decide +kernel
theorem dRW_add_34 : decode cRW_add 34 = .ok (.iconst (-1), 1) := by decide +kernel
theorem dRW_add_35 : decode cRW_add 35 = .ok (.ireturn, 1) := by decide +kernel
theorem dRW_add_36 : decode cRW_add 36 = .ok (.aload_n 0, 1) := by decide +kernel
theorem dRW_add_37 : decode cRW_add 37 = .ok (.getfield 11, 3) := by decide +kernel
theorem dRW_add_40 : decode cRW_add 40 = .ok (.iload_n 1, 1) := by decide +kernel
theorem dRW_add_41 : decode cRW_add 41 = .ok (.aaload, 1) := by decide +kernel
theorem dRW_add_42 : decode cRW_add 42 = .ok (.iload_n 2, 1) := by decide +kernel
theorem dRW_add_43 : decode cRW_add 43 = .ok (.iload_n 3, 1) := by decide +kernel
theorem dRW_add_44 : decode cRW_add 44 = .ok (.iload 4, 2) := by decide +kernel
theorem dRW_add_46 : decode cRW_add 46 = .ok (.invokevirtual 73, 3) := by decide +kernel
theorem dRW_add_49 : decode cRW_add 49 = .ok (.ireturn, 1) := by decide +kernel
set_option maxHeartbeats 4000000 in
set_option maxRecDepth 100000 in
theorem c_RW_add (l : Launch) (D : va_G) (tc : Nat → ClassId) (ad : Nat → Nat) (E : Nat → va_E) (st cs : Int32) (sz : Nat → Nat) (fo fa fb : Nat → Nat → Int32) (t op a b : Int32) (hR : isRW tc ad E st cs) (hp : ∀ t, t < 5 → isPG tc ad E (3 + 7 * t) (sz t) (fo t) (fa t) (fb t)) (hs : ∀ t, t < 5 → sz t ≤ 12) : Ct l D tc yRW_add 3 66 ad E [.ref (ad 0), .int t, .int op, .int a, .int b] (fun o E2 => o = .returned (some (.int (if addOk st sz t op a = true then nI (sz t.toNatClampNeg) else -1))) ∧ (addOk st sz t op a = false ∧ E2 = E ∨ addOk st sz t op a = true ∧ ∃ j, j < 5 ∧ t = nI j ∧ isPG tc ad E2 (3 + 7 * j) (sz j + 1) (upd (fo j) (sz j) op) (upd (fa j) (sz j) a) (upd (fb j) (sz j) b) ∧ ∀ k, k < 3 + 7 * j ∨ 7 + 7 * j ≤ k → E2 k = E k)) := by
  refine Ct.ofW (cc := cRW_add) (maxL := 5) (ret := (some .int)) (own := R_RW) (by decide) rfl w_154 (Nat.le_of_ble_eq_true rfl) ?_
  intro p e s m args below meth c ls X hlk hr hD hP hS hl
  have hx := X.1
  have hb := X.2.1
  have hl : lv_has ls 5 [(0, .ref (ad 0)), (1, .int t), (2, .int op), (3, .int a), (4, .int b)] := hl
  obtain ⟨rh0, ⟨ra1, rh1, rx1⟩, ⟨ra2, rh2, rx2⟩, ⟨ra3, rh3, rx3⟩, ⟨ra4, rh4, rx4⟩⟩ := hR
  refine lv_aload_n hx hb dRW_add_0 rfl (lv_at hl 0 rfl) ?_
  refine g_RW_54 X hP (by omega) (rh0) rfl dRW_add_1 ?_
  refine lv_if_ne (tgt := 34) hx hb dRW_add_4 rfl (fun h4 => ?_) (fun h4 => ?_)
  · refine lv_iconst (v := (-1)) hx hb dRW_add_34 (by decide) ?_
    exact q_iret X hlk hr hP hS dRW_add_35 (by have hok : addOk st sz t op a = false := (by simp [addOk, h4]); exact ⟨by rw [hok]; rfl, Or.inl ⟨hok, rfl⟩⟩)
  · refine lv_iload_n hx hb dRW_add_7 rfl (lv_at hl 1 rfl) ?_
    refine x_iE (f := fun k => 0 + k) (x_runS (As := [.int t]) (rest := []) X (c_RW_isThread l D tc (fun k => ad (0 + k)) (fun k => E (0 + k)) t) rfl rfl (by decide) (by decide) w_157 w_1 w_155 w_156 ry_RW_isThread (ct_pre X hP hD (fr_lt 0 66 0 (by omega)) (fr_inj 0 0)) ct_blind hl.1 (Nat.le_of_ble_eq_true rfl) dRW_add_8 ⟨Nat.zero_le _, Nat.zero_le _⟩) hD hP hS (fr_lt 0 66 0 (by omega)) (fr_inj 0 0) (fun H locs hD hP hS => ?_)
    refine lv_if_eq (tgt := 34) hx hb dRW_add_11 rfl (fun h11 => ?_) (fun h11 => ?_)
    · refine lv_iconst (v := (-1)) hx hb dRW_add_34 (by decide) ?_
      exact q_iret X hlk hr hP hS dRW_add_35 (by have hok : addOk st sz t op a = false := (by simp [addOk, bi_f h11]); exact ⟨by rw [hok]; rfl, Or.inl ⟨hok, rfl⟩⟩)
    · obtain ⟨j, hj, rfl⟩ := wi_of (by decide) (bi_t h11)
      obtain ⟨p0, p1, p2, p3⟩ := hp j hj
      refine lv_aload_n hx hb dRW_add_14 rfl (lv_at hl 0 rfl) ?_
      refine g_RW_11 X hP (by omega) (rh0) rfl dRW_add_15 ?_
      refine lv_iload_n hx hb dRW_add_18 rfl (lv_at hl 1 rfl) ?_
      refine q_aald (t0 := 3) j X hP (by omega) (rh1) rfl (rfl) (by omega) (by decide) (rx1 j (by omega)) dRW_add_19 ?_
      refine x_iE (f := fun k => (3 + 7 * j) + k) (x_runVN (C := R_PG) (As := []) (rest := []) X (c_PG_isFull l D tc (fun k => ad (3 + 7 * j + k)) (fun k => E (3 + 7 * j + k)) (sz j) _ _ _ p0 (hs j hj)) rfl rfl (by decide) (by decide) w_161 w_2 w_158 w_160 sel_PG_isFull ry_PG_isFull (x_recv X hP (by omega) (p0) rfl) (ct_pre X hP hD (fr_lt 4 66 (3 + 7 * j) (by omega)) (fr_inj 4 (3 + 7 * j))) ct_blind hl.1 (Nat.le_of_ble_eq_true rfl) dRW_add_20 ⟨Nat.zero_le _, Nat.zero_le _⟩) hD hP hS (fr_lt 4 66 (3 + 7 * j) (by omega)) (fr_inj 4 (3 + 7 * j)) (fun H locs hD hP hS => ?_)
      refine lv_if_ne (tgt := 34) hx hb dRW_add_23 rfl (fun h23 => ?_) (fun h23 => ?_)
      · refine lv_iconst (v := (-1)) hx hb dRW_add_34 (by decide) ?_
        exact q_iret X hlk hr hP hS dRW_add_35 (by have hok : addOk st sz (nI j) op a = false := (by simp [addOk, nI_clamp (show j < 2 ^ 31 by omega), Nat.not_lt.mpr (of_decide_eq_true (bi_t h23))]); exact ⟨by rw [hok]; rfl, Or.inl ⟨hok, rfl⟩⟩)
      · refine lv_iload_n hx hb dRW_add_26 rfl (lv_at hl 2 rfl) ?_
        refine lv_iload_n hx hb dRW_add_27 rfl (lv_at hl 3 rfl) ?_
        refine x_iE (f := fun k => 0 + k) (x_runS (As := [.int op, .int a]) (rest := []) X (c_RW_isNamed l D tc (fun k => ad (0 + k)) (fun k => E (0 + k)) op a) rfl rfl (by decide) (by decide) w_164 w_1 w_162 w_163 ry_RW_isNamed (ct_pre X hP hD (fr_lt 0 66 0 (by omega)) (fr_inj 0 0)) ct_blind hl.1 (Nat.le_of_ble_eq_true rfl) dRW_add_28 ⟨Nat.zero_le _, Nat.zero_le _⟩) hD hP hS (fr_lt 0 66 0 (by omega)) (fr_inj 0 0) (fun H locs hD hP hS => ?_)
        refine lv_if_ne (tgt := 36) hx hb dRW_add_31 rfl (fun h31 => ?_) (fun h31 => ?_)
        · have hlt : sz j < 12 := Nat.not_le.mp (of_decide_eq_false (bi_f h23))
          have hok : addOk st sz (nI j) op a = true := by simp [addOk, h4, nI_clamp (show j < 2 ^ 31 by omega), hlt, wi_nI hj (by decide), bi_t h31]
          refine lv_aload_n hx hb dRW_add_36 rfl (lv_at hl 0 rfl) ?_
          refine g_RW_11 X hP (by omega) (rh0) rfl dRW_add_37 ?_
          refine lv_iload_n hx hb dRW_add_40 rfl (lv_at hl 1 rfl) ?_
          refine q_aald (t0 := 3) j X hP (by omega) (rh1) rfl (rfl) (by omega) (by decide) (rx1 j (by omega)) dRW_add_41 ?_
          refine lv_iload_n hx hb dRW_add_42 rfl (lv_at hl 2 rfl) ?_
          refine lv_iload_n hx hb dRW_add_43 rfl (lv_at hl 3 rfl) ?_
          refine lv_iload hx hb dRW_add_44 (lv_at hl 4 rfl) ?_
          refine x_i (f := fun k => (3 + 7 * j) + k) (x_runVN (C := R_PG) (As := [.int op, .int a, .int b]) (rest := []) X (c_PG_append l D tc (fun k => ad (3 + 7 * j + k)) (fun k => E (3 + 7 * j + k)) (sz j) (fo j) (fa j) (fb j) op a b p0 p1 p2 p3 hlt) rfl rfl (by decide) (by decide) w_171 w_2 w_168 w_170 sel_PG_append ry_PG_append (x_recv X hP (by omega) (p0) rfl) (ct_pre X hP hD (fr_lt 4 66 (3 + 7 * j) (by omega)) (fr_inj 4 (3 + 7 * j))) ct_blind hl.1 (Nat.le_of_ble_eq_true rfl) dRW_add_46 ⟨Nat.zero_le _, Nat.zero_le _⟩) hD hP hS (fr_lt 4 66 (3 + 7 * j) (by omega)) (fr_inj 4 (3 + 7 * j)) (fun o E1 h => ⟨_, h.1⟩) (fun r5 E1 H locs q4 hD hP hS => ?_)
          obtain ⟨q4a, q40, q41, q42, q43⟩ := q4
          generalize g2 : wU 4 (fun k => (3 + 7 * j) + k) E E1 = E3 at hD hP
          have f6 : E3 0 = .inr (6, [.ref (ad 1), .ref (ad 2), .ref (ad 38), .ref (ad 48), .ref (ad 53), .ref (ad 56), .ref (ad 61), .int st, .int cs]) := by rw [← g2, wU_far (by omega)]; exact rh0
          have f7 : E3 1 = .inl (tc 3, 5, .inr (.inr (.inr (.inr ra1)))) := by rw [← g2, wU_far (by omega)]; exact rh1
          have f8 : E3 2 = .inl (tc 4, 5, .inr (.inr (.inr (.inr ra2)))) := by rw [← g2, wU_far (by omega)]; exact rh2
          have f9 : E3 38 = .inl (tc 5, 3, .inr (.inr (.inr (.inr ra3)))) := by rw [← g2, wU_far (by omega)]; exact rh3
          have f10 : E3 48 = .inl (tc 6, 2, .inr (.inr (.inr (.inr ra4)))) := by rw [← g2, wU_far (by omega)]; exact rh4
          have f11 : E3 (3 + 7 * j) = .inr (2, [.ref (ad (3 + 7 * j + 1)), .ref (ad (3 + 7 * j + 2)), .ref (ad (3 + 7 * j + 3)), .int (nI (sz j + 1))]) := by rw [← g2]; exact (wU_own 0 (by omega)).trans (q40)
          have f12 : E3 (3 + 7 * j + 1) = .inl (tc 0, 12, .inl (upd (fo j) (sz j) op)) := by rw [← g2]; exact (wU_own 1 (by omega)).trans (q41)
          have f13 : E3 (3 + 7 * j + 2) = .inl (tc 0, 12, .inl (upd (fa j) (sz j) a)) := by rw [← g2]; exact (wU_own 2 (by omega)).trans (q42)
          have f14 : E3 (3 + 7 * j + 3) = .inl (tc 0, 12, .inl (upd (fb j) (sz j) b)) := by rw [← g2]; exact (wU_own 3 (by omega)).trans (q43)
          exact q_iret (v := r5) X hlk hr hP hS dRW_add_49 (by rw [q4a]; exact ⟨by rw [if_pos hok, nI_clamp (by omega)], Or.inr ⟨hok, j, hj, rfl, ⟨f11, f12, f13, f14⟩, fun k hk => by rw [← g2, wU_far (by omega)]⟩⟩)
        · refine lv_iconst (v := (-1)) hx hb dRW_add_34 (by decide) ?_
          exact q_iret X hlk hr hP hS dRW_add_35 (by have hok : addOk st sz (nI j) op a = false := (by simp [addOk, bi_f h31]); exact ⟨by rw [hok]; rfl, Or.inl ⟨hok, rfl⟩⟩)
end
section
theorem dRW_bookOf_0 : decode cRW_bookOf 0 = .ok (.iload_n 1, 1) := by decide +kernel
theorem dRW_bookOf_1 : decode cRW_bookOf 1 = .ok (.ifCond .eq 10, 3) := by decide +kernel
theorem dRW_bookOf_4 : decode cRW_bookOf 4 = .ok (.aload_n 0, 1) := by decide +kernel
theorem dRW_bookOf_5 : decode cRW_bookOf 5 = .ok (.getfield 51, 3) := by decide +kernel
theorem dRW_bookOf_8 : decode cRW_bookOf 8 = .ok (.goto 7, 3) := by decide +kernel
theorem dRW_bookOf_11 : decode cRW_bookOf 11 = .ok (.aload_n 0, 1) := by decide +kernel
theorem dRW_bookOf_12 : decode cRW_bookOf 12 = .ok (.getfield 47, 3) := by decide +kernel
theorem dRW_bookOf_15 : decode cRW_bookOf 15 = .ok (.areturn, 1) := by decide +kernel
theorem dRW_ownBook_0 : decode cRW_ownBook 0 = .ok (.aload_n 0, 1) := by decide +kernel
theorem dRW_ownBook_1 : decode cRW_ownBook 1 = .ok (.aload_n 0, 1) := by decide +kernel
theorem dRW_ownBook_2 : decode cRW_ownBook 2 = .ok (.getfield 58, 3) := by decide +kernel
theorem dRW_ownBook_5 : decode cRW_ownBook 5 = .ok (.invokevirtual 186, 3) := by decide +kernel
theorem dRW_ownBook_8 : decode cRW_ownBook 8 = .ok (.areturn, 1) := by decide +kernel
theorem dIN_bitCount_0 : decode cIN_bitCount 0 = .ok (.iload_n 0, 1) := by decide +kernel
theorem dIN_bitCount_1 : decode cIN_bitCount 1 = .ok (.iload_n 0, 1) := by decide +kernel
theorem dIN_bitCount_2 : decode cIN_bitCount 2 = .ok (.iconst 1, 1) := by decide +kernel
theorem dIN_bitCount_3 : decode cIN_bitCount 3 = .ok (.iushr, 1) := by decide +kernel
theorem dIN_bitCount_4 : decode cIN_bitCount 4 = .ok (.ldc_w 265, 3) := by decide +kernel
theorem dIN_bitCount_7 : decode cIN_bitCount 7 = .ok (.iand, 1) := by decide +kernel
theorem dIN_bitCount_8 : decode cIN_bitCount 8 = .ok (.isub, 1) := by decide +kernel
theorem dIN_bitCount_9 : decode cIN_bitCount 9 = .ok (.istore_n 0, 1) := by decide +kernel
theorem dIN_bitCount_10 : decode cIN_bitCount 10 = .ok (.iload_n 0, 1) := by decide +kernel
theorem dIN_bitCount_11 : decode cIN_bitCount 11 = .ok (.ldc_w 266, 3) := by decide +kernel
theorem dIN_bitCount_14 : decode cIN_bitCount 14 = .ok (.iand, 1) := by decide +kernel
theorem dIN_bitCount_15 : decode cIN_bitCount 15 = .ok (.iload_n 0, 1) := by decide +kernel
theorem dIN_bitCount_16 : decode cIN_bitCount 16 = .ok (.iconst 2, 1) := by decide +kernel
theorem dIN_bitCount_17 : decode cIN_bitCount 17 = .ok (.iushr, 1) := by decide +kernel
theorem dIN_bitCount_18 : decode cIN_bitCount 18 = .ok (.ldc_w 266, 3) := by decide +kernel
theorem dIN_bitCount_21 : decode cIN_bitCount 21 = .ok (.iand, 1) := by decide +kernel
theorem dIN_bitCount_22 : decode cIN_bitCount 22 = .ok (.iadd, 1) := by decide +kernel
theorem dIN_bitCount_23 : decode cIN_bitCount 23 = .ok (.istore_n 0, 1) := by decide +kernel
theorem dIN_bitCount_24 : decode cIN_bitCount 24 = .ok (.iload_n 0, 1) := by decide +kernel
theorem dIN_bitCount_25 : decode cIN_bitCount 25 = .ok (.iload_n 0, 1) := by decide +kernel
theorem dIN_bitCount_26 : decode cIN_bitCount 26 = .ok (.iconst 4, 1) := by decide +kernel
theorem dIN_bitCount_27 : decode cIN_bitCount 27 = .ok (.iushr, 1) := by decide +kernel
theorem dIN_bitCount_28 : decode cIN_bitCount 28 = .ok (.iadd, 1) := by decide +kernel
theorem dIN_bitCount_29 : decode cIN_bitCount 29 = .ok (.ldc_w 267, 3) := by decide +kernel
theorem dIN_bitCount_32 : decode cIN_bitCount 32 = .ok (.iand, 1) := by decide +kernel
theorem dIN_bitCount_33 : decode cIN_bitCount 33 = .ok (.istore_n 0, 1) := by decide +kernel
theorem dIN_bitCount_34 : decode cIN_bitCount 34 = .ok (.iload_n 0, 1) := by decide +kernel
theorem dIN_bitCount_35 : decode cIN_bitCount 35 = .ok (.iload_n 0, 1) := by decide +kernel
theorem dIN_bitCount_36 : decode cIN_bitCount 36 = .ok (.bipush 8, 2) := by decide +kernel
theorem dIN_bitCount_38 : decode cIN_bitCount 38 = .ok (.iushr, 1) := by decide +kernel
theorem dIN_bitCount_39 : decode cIN_bitCount 39 = .ok (.iadd, 1) := by decide +kernel
theorem dIN_bitCount_40 : decode cIN_bitCount 40 = .ok (.istore_n 0, 1) := by decide +kernel
theorem dIN_bitCount_41 : decode cIN_bitCount 41 = .ok (.iload_n 0, 1) := by decide +kernel
theorem dIN_bitCount_42 : decode cIN_bitCount 42 = .ok (.iload_n 0, 1) := by decide +kernel
theorem dIN_bitCount_43 : decode cIN_bitCount 43 = .ok (.bipush 16, 2) := by decide +kernel
theorem dIN_bitCount_45 : decode cIN_bitCount 45 = .ok (.iushr, 1) := by decide +kernel
theorem dIN_bitCount_46 : decode cIN_bitCount 46 = .ok (.iadd, 1) := by decide +kernel
theorem dIN_bitCount_47 : decode cIN_bitCount 47 = .ok (.istore_n 0, 1) := by decide +kernel
theorem dIN_bitCount_48 : decode cIN_bitCount 48 = .ok (.iload_n 0, 1) := by decide +kernel
theorem dIN_bitCount_49 : decode cIN_bitCount 49 = .ok (.bipush 63, 2) := by decide +kernel
theorem dIN_bitCount_51 : decode cIN_bitCount 51 = .ok (.iand, 1) := by decide +kernel
theorem dIN_bitCount_52 : decode cIN_bitCount 52 = .ok (.ireturn, 1) := by decide +kernel
theorem dBK_placesWithin_0 : decode cBK_placesWithin 0 = .ok (.iconst 0, 1) := by decide +kernel
theorem dBK_placesWithin_1 : decode cBK_placesWithin 1 = .ok (.istore_n 2, 1) := by decide +kernel
theorem dBK_placesWithin_2 : decode cBK_placesWithin 2 = .ok (.iconst 0, 1) := by decide +kernel
theorem dBK_placesWithin_3 : decode cBK_placesWithin 3 = .ok (.istore_n 3, 1) := by decide +kernel
theorem dBK_placesWithin_4 : decode cBK_placesWithin 4 = .ok (.iload_n 3, 1) := by decide +kernel
theorem dBK_placesWithin_5 : decode cBK_placesWithin 5 = .ok (.bipush 8, 2) := by decide +kernel
theorem dBK_placesWithin_7 : decode cBK_placesWithin 7 = .ok (.if_icmp .ge 35, 3) := by decide +kernel
theorem dBK_placesWithin_10 : decode cBK_placesWithin 10 = .ok (.aload_n 0, 1) := by decide +kernel
theorem dBK_placesWithin_11 : decode cBK_placesWithin 11 = .ok (.getfield 9, 3) := by decide +kernel
theorem dBK_placesWithin_14 : decode cBK_placesWithin 14 = .ok (.iload_n 3, 1) := by decide +kernel
theorem dBK_placesWithin_15 : decode cBK_placesWithin 15 = .ok (.iaload, 1) := by decide +kernel
theorem dBK_placesWithin_16 : decode cBK_placesWithin 16 = .ok (.iconst (-1), 1) := by decide +kernel
theorem dBK_placesWithin_17 : decode cBK_placesWithin 17 = .ok (.if_icmp .eq 19, 3) := by decide +kernel
theorem dBK_placesWithin_20 : decode cBK_placesWithin 20 = .ok (.aload_n 0, 1) := by decide +kernel
theorem dBK_placesWithin_21 : decode cBK_placesWithin 21 = .ok (.getfield 9, 3) := by decide +kernel
theorem dBK_placesWithin_24 : decode cBK_placesWithin 24 = .ok (.iload_n 3, 1) := by decide +kernel
theorem dBK_placesWithin_25 : decode cBK_placesWithin 25 = .ok (.iaload, 1) := by decide +kernel
theorem dBK_placesWithin_26 : decode cBK_placesWithin 26 = .ok (.iload_n 1, 1) := by decide +kernel
theorem dBK_placesWithin_27 : decode cBK_placesWithin 27 = .ok (.if_icmp .ge 9, 3) := by decide +kernel
theorem dBK_placesWithin_30 : decode cBK_placesWithin 30 = .ok (.iload_n 2, 1) := by decide +kernel
theorem dBK_placesWithin_31 : decode cBK_placesWithin 31 = .ok (.iconst 1, 1) := by decide +kernel
theorem dBK_placesWithin_32 : decode cBK_placesWithin 32 = .ok (.iload_n 3, 1) := by decide +kernel
theorem dBK_placesWithin_33 : decode cBK_placesWithin 33 = .ok (.ishl, 1) := by decide +kernel
theorem dBK_placesWithin_34 : decode cBK_placesWithin 34 = .ok (.iadd, 1) := by decide +kernel
theorem dBK_placesWithin_35 : decode cBK_placesWithin 35 = .ok (.istore_n 2, 1) := by decide +kernel
theorem dBK_placesWithin_36 : decode cBK_placesWithin 36 = .ok (.iinc 3 1, 3) := by decide +kernel
theorem dBK_placesWithin_39 : decode cBK_placesWithin 39 = .ok (.goto (-35), 3) := by decide +kernel
theorem dBK_placesWithin_42 : decode cBK_placesWithin 42 = .ok (.iload_n 2, 1) := by decide +kernel
theorem dBK_placesWithin_43 : decode cBK_placesWithin 43 = .ok (.ireturn, 1) := by decide +kernel
theorem dRW_events_0 : decode cRW_events 0 = .ok (.aload_n 0, 1) := by decide +kernel
theorem dRW_events_1 : decode cRW_events 1 = .ok (.getfield 40, 3) := by decide +kernel
theorem dRW_events_4 : decode cRW_events 4 = .ok (.getfield 152, 3) := by decide +kernel
theorem dRW_events_7 : decode cRW_events 7 = .ok (.ireturn, 1) := by decide +kernel
theorem dRW_event_0 : decode cRW_event 0 = .ok (.aload_n 0, 1) := by decide +kernel
theorem dRW_event_1 : decode cRW_event 1 = .ok (.getfield 40, 3) := by decide +kernel
theorem dRW_event_4 : decode cRW_event 4 = .ok (.iload_n 1, 1) := by decide +kernel
theorem dRW_event_5 : decode cRW_event 5 = .ok (.invokevirtual 155, 3) := by decide +kernel
theorem dRW_event_8 : decode cRW_event 8 = .ok (.ifCond .eq 15, 3) := by decide +kernel
theorem dRW_event_11 : decode cRW_event 11 = .ok (.aload_n 0, 1) := by decide +kernel
theorem dRW_event_12 : decode cRW_event 12 = .ok (.getfield 40, 3) := by decide +kernel
theorem dRW_event_15 : decode cRW_event 15 = .ok (.getfield 158, 3) := by decide +kernel
theorem dRW_event_18 : decode cRW_event 18 = .ok (.iload_n 1, 1) := by decide +kernel
theorem dRW_event_19 : decode cRW_event 19 = .ok (.iaload, 1) := by decide +kernel
theorem dRW_event_20 : decode cRW_event 20 = .ok (.goto 4, 3) := by decide +kernel
theorem dRW_event_23 : decode cRW_event 23 = .ok (.iconst (-1), 1) := by decide +kernel
theorem dRW_event_24 : decode cRW_event 24 = .ok (.ireturn, 1) := by decide +kernel
theorem dRW_before_0 : decode cRW_before 0 = .ok (.aload_n 0, 1) := by decide +kernel
theorem dRW_before_1 : decode cRW_before 1 = .ok (.getfield 40, 3) := by decide +kernel
theorem dRW_before_4 : decode cRW_before 4 = .ok (.iload_n 1, 1) := by decide +kernel
theorem dRW_before_5 : decode cRW_before 5 = .ok (.invokevirtual 155, 3) := by decide +kernel
theorem dRW_before_8 : decode cRW_before 8 = .ok (.ifCond .eq 30, 3) := by decide +kernel
theorem dRW_before_11 : decode cRW_before 11 = .ok (.aload_n 0, 1) := by decide +kernel
theorem dRW_before_12 : decode cRW_before 12 = .ok (.getfield 40, 3) := by decide +kernel
theorem dRW_before_15 : decode cRW_before 15 = .ok (.iload_n 2, 1) := by decide +kernel
theorem dRW_before_16 : decode cRW_before 16 = .ok (.invokevirtual 155, 3) := by decide +kernel
theorem dRW_before_19 : decode cRW_before 19 = .ok (.ifCond .eq 19, 3) := by decide +kernel
theorem dRW_before_22 : decode cRW_before 22 = .ok (.aload_n 0, 1) := by decide +kernel
theorem dRW_before_23 : decode cRW_before 23 = .ok (.getfield 40, 3) := by decide +kernel
theorem dRW_before_26 : decode cRW_before 26 = .ok (.iload_n 1, 1) := by decide +kernel
theorem dRW_before_27 : decode cRW_before 27 = .ok (.iload_n 2, 1) := by decide +kernel
theorem dRW_before_28 : decode cRW_before 28 = .ok (.invokevirtual 161, 3) := by decide +kernel
theorem dRW_before_31 : decode cRW_before 31 = .ok (.ifCond .eq 7, 3) := by decide +kernel
theorem dRW_before_34 : decode cRW_before 34 = .ok (.iconst 1, 1) := by decide +kernel
theorem dRW_before_35 : decode cRW_before 35 = .ok (.goto 4, 3) := by decide +kernel
theorem dRW_before_38 : decode cRW_before 38 = .ok (.iconst 0, 1) := by decide +kernel
theorem dRW_before_39 : decode cRW_before 39 = .ok (.ireturn, 1) := by decide +kernel
theorem dRW_state_0 : decode cRW_state 0 = .ok (.aload_n 0, 1) := by decide +kernel
theorem dRW_state_1 : decode cRW_state 1 = .ok (.getfield 54, 3) := by decide +kernel
theorem dRW_state_4 : decode cRW_state 4 = .ok (.ifCond .eq 10, 3) := by decide +kernel
theorem dRW_state_7 : decode cRW_state 7 = .ok (.iload_n 1, 1) := by decide +kernel
theorem dRW_state_8 : decode cRW_state 8 = .ok (.invokestatic 61, 3) := by decide +kernel
theorem dRW_state_11 : decode cRW_state 11 = .ok (.ifCond .ne 7, 3) := by decide +kernel
theorem dRW_state_14 : decode cRW_state 14 = .ok (.ldc2_w 136, 3) := by decide +kernel
theorem dRW_state_17 : decode cRW_state 17 = .ok (.lreturn, 1) := by decide +kernel
theorem dRW_state_18 : decode cRW_state 18 = .ok (.aload_n 0, 1) := by decide +kernel
theorem dRW_state_19 : decode cRW_state 19 = .ok (.getfield 17, 3) := by decide +kernel
theorem dRW_state_22 : decode cRW_state 22 = .ok (.iload_n 1, 1) := by decide +kernel
theorem dRW_state_23 : decode cRW_state 23 = .ok (.aaload, 1) := by decide +kernel
theorem dRW_state_24 : decode cRW_state 24 = .ok (.astore_n 2, 1) := by decide +kernel
theorem dRW_state_25 : decode cRW_state 25 = .ok (.aload_n 2, 1) := by decide +kernel
theorem dRW_state_26 : decode cRW_state 26 = .ok (.getfield 94, 3) := by decide +kernel
theorem dRW_state_29 : decode cRW_state 29 = .ok (.i2l, 1) := by decide +kernel
theorem dRW_state_30 : decode cRW_state 30 = .ok (.ldc2_w 138, 3) := by decide +kernel
theorem dRW_state_33 : decode cRW_state 33 = .ok (.aload_n 2, 1) := by decide +kernel
theorem dRW_state_34 : decode cRW_state 34 = .ok (.getfield 109, 3) := by decide +kernel
theorem dRW_state_37 : decode cRW_state 37 = .ok (.i2l, 1) := by decide +kernel
theorem dRW_state_38 : decode cRW_state 38 = .ok (.lmul, 1) := by decide +kernel
theorem dRW_state_39 : decode cRW_state 39 = .ok (.ladd, 1) := by decide +kernel
theorem dRW_state_40 : decode cRW_state 40 = .ok (.ldc2_w 140, 3) := by decide +kernel
theorem dRW_state_43 : decode cRW_state 43 = .ok (.aload_n 2, 1) := by decide +kernel
theorem dRW_state_44 : decode cRW_state 44 = .ok (.getfield 142, 3) := by decide +kernel
theorem dRW_state_47 : decode cRW_state 47 = .ok (.lmul, 1) := by decide +kernel
theorem dRW_state_48 : decode cRW_state 48 = .ok (.ladd, 1) := by decide +kernel
theorem dRW_state_49 : decode cRW_state 49 = .ok (.lreturn, 1) := by decide +kernel
theorem dRW_holder_0 : decode cRW_holder 0 = .ok (.iload_n 1, 1) := by decide +kernel
theorem dRW_holder_1 : decode cRW_holder 1 = .ok (.ifCond .lt 20, 3) := by decide +kernel
theorem dRW_holder_4 : decode cRW_holder 4 = .ok (.iload_n 1, 1) := by decide +kernel
theorem dRW_holder_5 : decode cRW_holder 5 = .ok (.iconst 3, 1) := by decide +kernel
theorem dRW_holder_6 : decode cRW_holder 6 = .ok (.if_icmp .ge 15, 3) := by decide +kernel
theorem dRW_holder_9 : decode cRW_holder 9 = .ok (.aload_n 0, 1) := by decide +kernel
theorem dRW_holder_10 : decode cRW_holder 10 = .ok (.getfield 25, 3) := by decide +kernel
theorem dRW_holder_13 : decode cRW_holder 13 = .ok (.iload_n 1, 1) := by decide +kernel
theorem dRW_holder_14 : decode cRW_holder 14 = .ok (.aaload, 1) := by decide +kernel
theorem dRW_holder_15 : decode cRW_holder 15 = .ok (.getfield 146, 3) := by decide +kernel
theorem dRW_holder_18 : decode cRW_holder 18 = .ok (.ifCond .ne 5, 3) := by decide +kernel
theorem dRW_holder_21 : decode cRW_holder 21 = .ok (.iconst (-1), 1) := by decide +kernel
theorem dRW_holder_22 : decode cRW_holder 22 = .ok (.ireturn, 1) := by decide +kernel
theorem dRW_holder_23 : decode cRW_holder 23 = .ok (.aload_n 0, 1) := by decide +kernel
theorem dRW_holder_24 : decode cRW_holder 24 = .ok (.getfield 25, 3) := by decide +kernel
theorem dRW_holder_27 : decode cRW_holder 27 = .ok (.iload_n 1, 1) := by decide +kernel
theorem dRW_holder_28 : decode cRW_holder 28 = .ok (.aaload, 1) := by decide +kernel
theorem dRW_holder_29 : decode cRW_holder 29 = .ok (.getfield 149, 3) := by decide +kernel
theorem dRW_holder_32 : decode cRW_holder 32 = .ok (.bipush 8, 2) := by decide +kernel
theorem dRW_holder_34 : decode cRW_holder 34 = .ok (.aload_n 0, 1) := by decide +kernel
theorem dRW_holder_35 : decode cRW_holder 35 = .ok (.getfield 25, 3) := by decide +kernel
theorem dRW_holder_38 : decode cRW_holder 38 = .ok (.iload_n 1, 1) := by decide +kernel
theorem dRW_holder_39 : decode cRW_holder 39 = .ok (.aaload, 1) := by decide +kernel
theorem dRW_holder_40 : decode cRW_holder 40 = .ok (.getfield 146, 3) := by decide +kernel
theorem dRW_holder_43 : decode cRW_holder 43 = .ok (.imul, 1) := by decide +kernel
theorem dRW_holder_44 : decode cRW_holder 44 = .ok (.iadd, 1) := by decide +kernel
theorem dRW_holder_45 : decode cRW_holder 45 = .ok (.ireturn, 1) := by decide +kernel
theorem dRW_race_0 : decode cRW_race 0 = .ok (.iload_n 1, 1) := by decide +kernel
theorem dRW_race_1 : decode cRW_race 1 = .ok (.invokestatic 164, 3) := by decide +kernel
theorem dRW_race_4 : decode cRW_race 4 = .ok (.ifCond .eq 15, 3) := by decide +kernel
theorem dRW_race_7 : decode cRW_race 7 = .ok (.aload_n 0, 1) := by decide +kernel
theorem dRW_race_8 : decode cRW_race 8 = .ok (.invokevirtual 167, 3) := by decide +kernel
theorem dRW_race_11 : decode cRW_race 11 = .ok (.getfield 171, 3) := by decide +kernel
theorem dRW_race_14 : decode cRW_race 14 = .ok (.iload_n 1, 1) := by decide +kernel
theorem dRW_race_15 : decode cRW_race 15 = .ok (.iaload, 1) := by decide +kernel
theorem dRW_race_16 : decode cRW_race 16 = .ok (.goto 4, 3) := by decide +kernel
theorem dRW_race_19 : decode cRW_race 19 = .ok (.iconst (-1), 1) := by decide +kernel
theorem dRW_race_20 : decode cRW_race 20 = .ok (.ireturn, 1) := by decide +kernel
theorem dRW_partner_0 : decode cRW_partner 0 = .ok (.iload_n 1, 1) := by decide +kernel
theorem dRW_partner_1 : decode cRW_partner 1 = .ok (.invokestatic 164, 3) := by decide +kernel
theorem dRW_partner_4 : decode cRW_partner 4 = .ok (.ifCond .eq 15, 3) := by decide +kernel
theorem dRW_partner_7 : decode cRW_partner 7 = .ok (.aload_n 0, 1) := by decide +kernel
theorem dRW_partner_8 : decode cRW_partner 8 = .ok (.invokevirtual 167, 3) := by decide +kernel
theorem dRW_partner_11 : decode cRW_partner 11 = .ok (.getfield 174, 3) := by decide +kernel
theorem dRW_partner_14 : decode cRW_partner 14 = .ok (.iload_n 1, 1) := by decide +kernel
theorem dRW_partner_15 : decode cRW_partner 15 = .ok (.iaload, 1) := by decide +kernel
theorem dRW_partner_16 : decode cRW_partner 16 = .ok (.goto 4, 3) := by decide +kernel
theorem dRW_partner_19 : decode cRW_partner 19 = .ok (.iconst (-1), 1) := by decide +kernel
theorem dRW_partner_20 : decode cRW_partner 20 = .ok (.ireturn, 1) := by decide +kernel
theorem dRW_races_0 : decode cRW_races 0 = .ok (.aload_n 0, 1) := by decide +kernel
theorem dRW_races_1 : decode cRW_races 1 = .ok (.invokevirtual 167, 3) := by decide +kernel
theorem dRW_races_4 : decode cRW_races 4 = .ok (.aload_n 0, 1) := by decide +kernel
theorem dRW_races_5 : decode cRW_races 5 = .ok (.getfield 40, 3) := by decide +kernel
theorem dRW_races_8 : decode cRW_races 8 = .ok (.getfield 152, 3) := by decide +kernel
theorem dRW_races_11 : decode cRW_races 11 = .ok (.invokevirtual 177, 3) := by decide +kernel
theorem dRW_races_14 : decode cRW_races 14 = .ok (.invokestatic 181, 3) := by decide +kernel
theorem dRW_races_17 : decode cRW_races 17 = .ok (.ireturn, 1) := by decide +kernel
set_option maxHeartbeats 4000000 in
set_option maxRecDepth 100000 in
theorem c_RW_bookOf (l : Launch) (D : va_G) (tc : Nat → ClassId) (ad : Nat → Nat) (E : Nat → va_E) (st cs c1 : Int32) (hR : isRW tc ad E st cs) : Ct l D tc yRW_bookOf 0 66 ad E [.ref (ad 0), .int c1] (fun o E2 => o = .returned (some (.ref (if c1 = 0 then ad 56 else ad 61))) ∧ E2 = E) := by
  refine Ct.ofW (cc := cRW_bookOf) (maxL := 2) (ret := (some (.object "RaceWatch$RaceBook"))) (own := R_RW) (by decide) rfl w_246 (Nat.le_of_ble_eq_true rfl) ?_
  intro p e s m args below meth c ls X hlk hr hD hP hS hl
  have hx := X.1
  have hb := X.2.1
  have hl : lv_has ls 2 [(0, .ref (ad 0)), (1, .int c1)] := hl
  obtain ⟨rh0, ⟨ra1, rh1, rx1⟩, ⟨ra2, rh2, rx2⟩, ⟨ra3, rh3, rx3⟩, ⟨ra4, rh4, rx4⟩⟩ := hR
  refine lv_iload_n hx hb dRW_bookOf_0 rfl (lv_at hl 1 rfl) ?_
  refine lv_if_eq (tgt := 11) hx hb dRW_bookOf_1 rfl (fun h1 => ?_) (fun h1 => ?_)
  · refine lv_aload_n hx hb dRW_bookOf_11 rfl (lv_at hl 0 rfl) ?_
    refine g_RW_47 X hP (by omega) (rh0) rfl dRW_bookOf_12 ?_
    exact q_aret X hlk hr hP hS dRW_bookOf_15 (⟨by rw [if_pos h1], rfl⟩)
  · refine lv_aload_n hx hb dRW_bookOf_4 rfl (lv_at hl 0 rfl) ?_
    refine g_RW_51 X hP (by omega) (rh0) rfl dRW_bookOf_5 ?_
    refine lv_goto (tgt := 15) hx hb dRW_bookOf_8 rfl ?_
    exact q_aret X hlk hr hP hS dRW_bookOf_15 (⟨by rw [if_neg h1], rfl⟩)
set_option maxHeartbeats 4000000 in
set_option maxRecDepth 100000 in
theorem c_RW_ownBook (l : Launch) (D : va_G) (tc : Nat → ClassId) (ad : Nat → Nat) (E : Nat → va_E) (st cs : Int32) (hR : isRW tc ad E st cs) : Ct l D tc yRW_ownBook 1 66 ad E [.ref (ad 0)] (fun o E2 => o = .returned (some (.ref (if cs = 0 then ad 56 else ad 61))) ∧ E2 = E) := by
  refine Ct.ofW (cc := cRW_ownBook) (maxL := 1) (ret := (some (.object "RaceWatch$RaceBook"))) (own := R_RW) (by decide) rfl w_242 (Nat.le_of_ble_eq_true rfl) ?_
  intro p e s m args below meth c ls X hlk hr hD hP hS hl
  have hx := X.1
  have hb := X.2.1
  have hl : lv_has ls 1 [(0, .ref (ad 0))] := hl
  have hR0 := hR
  obtain ⟨rh0, ⟨ra1, rh1, rx1⟩, ⟨ra2, rh2, rx2⟩, ⟨ra3, rh3, rx3⟩, ⟨ra4, rh4, rx4⟩⟩ := hR
  refine lv_aload_n hx hb dRW_ownBook_0 rfl (lv_at hl 0 rfl) ?_
  refine lv_aload_n hx hb dRW_ownBook_1 rfl (lv_at hl 0 rfl) ?_
  refine g_RW_58 X hP (by omega) (rh0) rfl dRW_ownBook_2 ?_
  refine x_rE (v := if cs = 0 then ad 56 else ad 61) (f := fun k => 0 + k) (x_runV (C := R_RW) (As := [.int cs]) (rest := []) X (c_RW_bookOf l D tc (fun k => ad (0 + k)) (fun k => E (0 + k)) st cs cs (by simpa only [Nat.zero_add] using hR0)) rfl rfl (by decide) (by decide) w_246 w_1 w_243 w_245 sel_RW_bookOf ry_RW_bookOf (x_recv X hP (by omega) (rh0) rfl) (ct_pre X hP hD (fr_lt 66 66 0 (by omega)) (fr_inj 66 0)) ct_blind hl.1 (Nat.le_of_ble_eq_true rfl) dRW_ownBook_5 ⟨Nat.zero_le _, Nat.zero_le _⟩) hD hP hS (fr_lt 66 66 0 (by omega)) (fr_inj 66 0) (fun H locs hD hP hS => ?_)
  exact q_aret X hlk hr hP hS dRW_ownBook_8 (⟨rfl, rfl⟩)
set_option maxHeartbeats 4000000 in
set_option maxRecDepth 100000 in
theorem c_IN_bitCount (l : Launch) (D : va_G) (tc : Nat → ClassId) (ad : Nat → Nat) (E : Nat → va_E) (x : Int32)  : Ct l D tc yIN_bitCount 0 0 ad E [.int x] (fun o E2 => ∃ r : Int32, o = .returned (some (.int r)) ∧ E2 = E ∧ (x = 0 → r = 0)) := by
  refine Ct.ofW (cc := cIN_bitCount) (maxL := 1) (ret := (some .int)) (own := R_IN) (by decide) rfl w_261 (Nat.le_of_ble_eq_true rfl) ?_
  intro p e s m args below meth c ls X hlk hr hD hP hS hl
  have hx := X.1
  have hb := X.2.1
  have hl : lv_has ls 1 [(0, .int x)] := hl
  refine lv_iload_n hx hb dIN_bitCount_0 rfl (lv_at hl 0 rfl) ?_
  refine lv_iload_n hx hb dIN_bitCount_1 rfl (lv_at hl 0 rfl) ?_
  refine lv_iconst (v := 1) hx hb dIN_bitCount_2 (by decide) ?_
  refine lv_iushr hx hb dIN_bitCount_3 rfl ?_
  refine lv_ldcw (v := 1431655765) hx hb X.2.2.2.1 (X.2.2.2.2.1 _ w_262) dIN_bitCount_4 ?_
  refine lv_iand hx hb dIN_bitCount_7 ?_
  refine lv_isub hx hb dIN_bitCount_8 ?_
  refine lv_istore_n hx hb dIN_bitCount_9 rfl hl (by decide) rfl (fun ls hl => ?_)
  have hl : lv_has ls 1 [(0, .int (x - (((x.toUInt32 >>> ((1 : Int32).toUInt32 &&& Int32.toUInt32 31)).toInt32) &&& 1431655765)))] := hl
  refine lv_iload_n hx hb dIN_bitCount_10 rfl (lv_at hl 0 rfl) ?_
  refine lv_ldcw (v := 858993459) hx hb X.2.2.2.1 (X.2.2.2.2.1 _ w_263) dIN_bitCount_11 ?_
  refine lv_iand hx hb dIN_bitCount_14 ?_
  refine lv_iload_n hx hb dIN_bitCount_15 rfl (lv_at hl 0 rfl) ?_
  refine lv_iconst (v := 2) hx hb dIN_bitCount_16 (by decide) ?_
  refine lv_iushr hx hb dIN_bitCount_17 rfl ?_
  refine lv_ldcw (v := 858993459) hx hb X.2.2.2.1 (X.2.2.2.2.1 _ w_263) dIN_bitCount_18 ?_
  refine lv_iand hx hb dIN_bitCount_21 ?_
  refine lv_iadd hx hb dIN_bitCount_22 ?_
  refine lv_istore_n hx hb dIN_bitCount_23 rfl hl (by decide) rfl (fun ls hl => ?_)
  have hl : lv_has ls 1 [(0, .int (((x - (((x.toUInt32 >>> ((1 : Int32).toUInt32 &&& Int32.toUInt32 31)).toInt32) &&& 1431655765)) &&& 858993459) + ((((x - (((x.toUInt32 >>> ((1 : Int32).toUInt32 &&& Int32.toUInt32 31)).toInt32) &&& 1431655765)).toUInt32 >>> ((2 : Int32).toUInt32 &&& Int32.toUInt32 31)).toInt32) &&& 858993459)))] := hl
  refine lv_iload_n hx hb dIN_bitCount_24 rfl (lv_at hl 0 rfl) ?_
  refine lv_iload_n hx hb dIN_bitCount_25 rfl (lv_at hl 0 rfl) ?_
  refine lv_iconst (v := 4) hx hb dIN_bitCount_26 (by decide) ?_
  refine lv_iushr hx hb dIN_bitCount_27 rfl ?_
  refine lv_iadd hx hb dIN_bitCount_28 ?_
  refine lv_ldcw (v := 252645135) hx hb X.2.2.2.1 (X.2.2.2.2.1 _ w_264) dIN_bitCount_29 ?_
  refine lv_iand hx hb dIN_bitCount_32 ?_
  refine lv_istore_n hx hb dIN_bitCount_33 rfl hl (by decide) rfl (fun ls hl => ?_)
  have hl : lv_has ls 1 [(0, .int (((((x - (((x.toUInt32 >>> ((1 : Int32).toUInt32 &&& Int32.toUInt32 31)).toInt32) &&& 1431655765)) &&& 858993459) + ((((x - (((x.toUInt32 >>> ((1 : Int32).toUInt32 &&& Int32.toUInt32 31)).toInt32) &&& 1431655765)).toUInt32 >>> ((2 : Int32).toUInt32 &&& Int32.toUInt32 31)).toInt32) &&& 858993459)) + (((((x - (((x.toUInt32 >>> ((1 : Int32).toUInt32 &&& Int32.toUInt32 31)).toInt32) &&& 1431655765)) &&& 858993459) + ((((x - (((x.toUInt32 >>> ((1 : Int32).toUInt32 &&& Int32.toUInt32 31)).toInt32) &&& 1431655765)).toUInt32 >>> ((2 : Int32).toUInt32 &&& Int32.toUInt32 31)).toInt32) &&& 858993459)).toUInt32 >>> ((4 : Int32).toUInt32 &&& Int32.toUInt32 31)).toInt32)) &&& 252645135))] := hl
  refine lv_iload_n hx hb dIN_bitCount_34 rfl (lv_at hl 0 rfl) ?_
  refine lv_iload_n hx hb dIN_bitCount_35 rfl (lv_at hl 0 rfl) ?_
  refine lv_bipush (v := 8) hx hb dIN_bitCount_36 (by decide) ?_
  refine lv_iushr hx hb dIN_bitCount_38 rfl ?_
  refine lv_iadd hx hb dIN_bitCount_39 ?_
  refine lv_istore_n hx hb dIN_bitCount_40 rfl hl (by decide) rfl (fun ls hl => ?_)
  have hl : lv_has ls 1 [(0, .int ((((((x - (((x.toUInt32 >>> ((1 : Int32).toUInt32 &&& Int32.toUInt32 31)).toInt32) &&& 1431655765)) &&& 858993459) + ((((x - (((x.toUInt32 >>> ((1 : Int32).toUInt32 &&& Int32.toUInt32 31)).toInt32) &&& 1431655765)).toUInt32 >>> ((2 : Int32).toUInt32 &&& Int32.toUInt32 31)).toInt32) &&& 858993459)) + (((((x - (((x.toUInt32 >>> ((1 : Int32).toUInt32 &&& Int32.toUInt32 31)).toInt32) &&& 1431655765)) &&& 858993459) + ((((x - (((x.toUInt32 >>> ((1 : Int32).toUInt32 &&& Int32.toUInt32 31)).toInt32) &&& 1431655765)).toUInt32 >>> ((2 : Int32).toUInt32 &&& Int32.toUInt32 31)).toInt32) &&& 858993459)).toUInt32 >>> ((4 : Int32).toUInt32 &&& Int32.toUInt32 31)).toInt32)) &&& 252645135) + (((((((x - (((x.toUInt32 >>> ((1 : Int32).toUInt32 &&& Int32.toUInt32 31)).toInt32) &&& 1431655765)) &&& 858993459) + ((((x - (((x.toUInt32 >>> ((1 : Int32).toUInt32 &&& Int32.toUInt32 31)).toInt32) &&& 1431655765)).toUInt32 >>> ((2 : Int32).toUInt32 &&& Int32.toUInt32 31)).toInt32) &&& 858993459)) + (((((x - (((x.toUInt32 >>> ((1 : Int32).toUInt32 &&& Int32.toUInt32 31)).toInt32) &&& 1431655765)) &&& 858993459) + ((((x - (((x.toUInt32 >>> ((1 : Int32).toUInt32 &&& Int32.toUInt32 31)).toInt32) &&& 1431655765)).toUInt32 >>> ((2 : Int32).toUInt32 &&& Int32.toUInt32 31)).toInt32) &&& 858993459)).toUInt32 >>> ((4 : Int32).toUInt32 &&& Int32.toUInt32 31)).toInt32)) &&& 252645135).toUInt32 >>> ((8 : Int32).toUInt32 &&& Int32.toUInt32 31)).toInt32)))] := hl
  refine lv_iload_n hx hb dIN_bitCount_41 rfl (lv_at hl 0 rfl) ?_
  refine lv_iload_n hx hb dIN_bitCount_42 rfl (lv_at hl 0 rfl) ?_
  refine lv_bipush (v := 16) hx hb dIN_bitCount_43 (by decide) ?_
  refine lv_iushr hx hb dIN_bitCount_45 rfl ?_
  refine lv_iadd hx hb dIN_bitCount_46 ?_
  refine lv_istore_n hx hb dIN_bitCount_47 rfl hl (by decide) rfl (fun ls hl => ?_)
  have hl : lv_has ls 1 [(0, .int (((((((x - (((x.toUInt32 >>> ((1 : Int32).toUInt32 &&& Int32.toUInt32 31)).toInt32) &&& 1431655765)) &&& 858993459) + ((((x - (((x.toUInt32 >>> ((1 : Int32).toUInt32 &&& Int32.toUInt32 31)).toInt32) &&& 1431655765)).toUInt32 >>> ((2 : Int32).toUInt32 &&& Int32.toUInt32 31)).toInt32) &&& 858993459)) + (((((x - (((x.toUInt32 >>> ((1 : Int32).toUInt32 &&& Int32.toUInt32 31)).toInt32) &&& 1431655765)) &&& 858993459) + ((((x - (((x.toUInt32 >>> ((1 : Int32).toUInt32 &&& Int32.toUInt32 31)).toInt32) &&& 1431655765)).toUInt32 >>> ((2 : Int32).toUInt32 &&& Int32.toUInt32 31)).toInt32) &&& 858993459)).toUInt32 >>> ((4 : Int32).toUInt32 &&& Int32.toUInt32 31)).toInt32)) &&& 252645135) + (((((((x - (((x.toUInt32 >>> ((1 : Int32).toUInt32 &&& Int32.toUInt32 31)).toInt32) &&& 1431655765)) &&& 858993459) + ((((x - (((x.toUInt32 >>> ((1 : Int32).toUInt32 &&& Int32.toUInt32 31)).toInt32) &&& 1431655765)).toUInt32 >>> ((2 : Int32).toUInt32 &&& Int32.toUInt32 31)).toInt32) &&& 858993459)) + (((((x - (((x.toUInt32 >>> ((1 : Int32).toUInt32 &&& Int32.toUInt32 31)).toInt32) &&& 1431655765)) &&& 858993459) + ((((x - (((x.toUInt32 >>> ((1 : Int32).toUInt32 &&& Int32.toUInt32 31)).toInt32) &&& 1431655765)).toUInt32 >>> ((2 : Int32).toUInt32 &&& Int32.toUInt32 31)).toInt32) &&& 858993459)).toUInt32 >>> ((4 : Int32).toUInt32 &&& Int32.toUInt32 31)).toInt32)) &&& 252645135).toUInt32 >>> ((8 : Int32).toUInt32 &&& Int32.toUInt32 31)).toInt32)) + ((((((((x - (((x.toUInt32 >>> ((1 : Int32).toUInt32 &&& Int32.toUInt32 31)).toInt32) &&& 1431655765)) &&& 858993459) + ((((x - (((x.toUInt32 >>> ((1 : Int32).toUInt32 &&& Int32.toUInt32 31)).toInt32) &&& 1431655765)).toUInt32 >>> ((2 : Int32).toUInt32 &&& Int32.toUInt32 31)).toInt32) &&& 858993459)) + (((((x - (((x.toUInt32 >>> ((1 : Int32).toUInt32 &&& Int32.toUInt32 31)).toInt32) &&& 1431655765)) &&& 858993459) + ((((x - (((x.toUInt32 >>> ((1 : Int32).toUInt32 &&& Int32.toUInt32 31)).toInt32) &&& 1431655765)).toUInt32 >>> ((2 : Int32).toUInt32 &&& Int32.toUInt32 31)).toInt32) &&& 858993459)).toUInt32 >>> ((4 : Int32).toUInt32 &&& Int32.toUInt32 31)).toInt32)) &&& 252645135) + (((((((x - (((x.toUInt32 >>> ((1 : Int32).toUInt32 &&& Int32.toUInt32 31)).toInt32) &&& 1431655765)) &&& 858993459) + ((((x - (((x.toUInt32 >>> ((1 : Int32).toUInt32 &&& Int32.toUInt32 31)).toInt32) &&& 1431655765)).toUInt32 >>> ((2 : Int32).toUInt32 &&& Int32.toUInt32 31)).toInt32) &&& 858993459)) + (((((x - (((x.toUInt32 >>> ((1 : Int32).toUInt32 &&& Int32.toUInt32 31)).toInt32) &&& 1431655765)) &&& 858993459) + ((((x - (((x.toUInt32 >>> ((1 : Int32).toUInt32 &&& Int32.toUInt32 31)).toInt32) &&& 1431655765)).toUInt32 >>> ((2 : Int32).toUInt32 &&& Int32.toUInt32 31)).toInt32) &&& 858993459)).toUInt32 >>> ((4 : Int32).toUInt32 &&& Int32.toUInt32 31)).toInt32)) &&& 252645135).toUInt32 >>> ((8 : Int32).toUInt32 &&& Int32.toUInt32 31)).toInt32)).toUInt32 >>> ((16 : Int32).toUInt32 &&& Int32.toUInt32 31)).toInt32)))] := hl
  refine lv_iload_n hx hb dIN_bitCount_48 rfl (lv_at hl 0 rfl) ?_
  refine lv_bipush (v := 63) hx hb dIN_bitCount_49 (by decide) ?_
  refine lv_iand hx hb dIN_bitCount_51 ?_
  exact q_iret X hlk hr hP hS dIN_bitCount_52 (⟨_, rfl, rfl, fun h => by subst h; decide⟩)
set_option maxHeartbeats 4000000 in
set_option maxRecDepth 100000 in
theorem c_BK_placesWithin (l : Launch) (D : va_G) (tc : Nat → ClassId) (ad : Nat → Nat) (E : Nat → va_E) (fr : Nat → Int32) (r2 r3 r4 : Value) (k : Int32) (h0 : E 0 = .inr (3, [.ref (ad 1), r2, r3, r4])) (h1 : E 1 = .inl (tc 0, 8, .inl fr)) : Ct l D tc yBK_placesWithin 0 5 ad E [.ref (ad 0), .int k] (fun o E2 => ∃ r : Int32, o = .returned (some (.int r)) ∧ E2 = E ∧ ((∀ j, j < 8 → fr j = -1) → r = 0)) := by
  refine Ct.ofW (cc := cBK_placesWithin) (maxL := 4) (ret := (some .int)) (own := R_BK) (by decide) rfl w_258 (Nat.le_of_ble_eq_true rfl) ?_
  intro p e s m args below meth c ls X hlk hr hD hP hS hl
  have hx := X.1
  have hb := X.2.1
  have hl : lv_has ls 4 [(0, .ref (ad 0)), (1, .int k)] := hl
  refine lv_iconst (v := 0) hx hb dBK_placesWithin_0 (by decide) ?_
  refine lv_istore_n hx hb dBK_placesWithin_1 rfl hl (by decide) rfl (fun ls hl => ?_)
  have hl : lv_has ls 4 [(2, .int 0), (0, .ref (ad 0)), (1, .int k)] := hl
  refine lv_iconst (v := 0) hx hb dBK_placesWithin_2 (by decide) ?_
  refine lv_istore_n hx hb dBK_placesWithin_3 rfl hl (by decide) rfl (fun ls hl => ?_)
  have hl : lv_has ls 4 [(3, .int 0), (2, .int 0), (0, .ref (ad 0)), (1, .int k)] := hl
  have loop : ∀ (r i : Nat) (sm : Int32) (H : Heap) (locs : List Loc) (ls : Array Slot), i + r = 8 → ((∀ j, j < 8 → fr j = -1) → sm = 0) → va_D (Aw 5 ad) (wW 5 ad E) → va_P D vwCl (wW 5 ad E) H → va_S (Aw 5 ad) s.heap H locs → lv_has ls 4 [(3, .int (nI i)), (2, .int sm), (0, .ref (ad 0)), (1, .int k)] → W p l e (rmD 0) s m args below meth c H locs 0 0 (XQ below (CtQ D 5 ad (fun o E2 => ∃ r : Int32, o = .returned (some (.int r)) ∧ E2 = E ∧ ((∀ j, j < 8 → fr j = -1) → r = 0))) args s 0 0 (Aw 5 ad)) (F0 m 4 ls []) := by
    intro r
    induction r with
    | zero =>
      intro i sm H locs ls hi hsm hD hP hS hl
      refine lv_iload_n hx hb dBK_placesWithin_4 rfl (lv_at hl 0 rfl) ?_
      refine lv_bipush (v := 8) hx hb dBK_placesWithin_5 (by decide) ?_
      refine lv_icmp_ge (tgt := 42) hx hb dBK_placesWithin_7 rfl (fun h7 => ?_) (fun h7 => absurd (nI_le (a := 8) (b := i) (by omega) (by omega)) h7)
      refine lv_iload_n hx hb dBK_placesWithin_42 rfl (lv_at hl 1 rfl) ?_
      exact q_iret X hlk hr hP hS dBK_placesWithin_43 (⟨_, rfl, rfl, hsm⟩)
    | succ r ih =>
      intro i sm H locs ls hi hsm hD hP hS hl
      refine lv_iload_n hx hb dBK_placesWithin_4 rfl (lv_at hl 0 rfl) ?_
      refine lv_bipush (v := 8) hx hb dBK_placesWithin_5 (by decide) ?_
      refine lv_icmp_ge (tgt := 42) hx hb dBK_placesWithin_7 rfl (fun h7 => absurd h7 (nI_ge (a := i) (b := 8) (by omega) (by omega))) (fun h7 => ?_)
      refine lv_aload_n hx hb dBK_placesWithin_10 rfl (lv_at hl 2 rfl) ?_
      refine g_BK_9 X hP (by omega) (h0) rfl dBK_placesWithin_11 ?_
      refine lv_iload_n hx hb dBK_placesWithin_14 rfl (lv_at hl 0 rfl) ?_
      refine q_iald i X hP (by omega) (h1) (rfl) (by omega) (by decide) dBK_placesWithin_15 ?_
      refine lv_iconst (v := (-1)) hx hb dBK_placesWithin_16 (by decide) ?_
      refine lv_icmp_eq (tgt := 36) hx hb dBK_placesWithin_17 rfl (fun h17 => ?_) (fun h17 => ?_)
      · refine lv_iinc (k := 0) (v := nI (i + 1)) hx hb dBK_placesWithin_36 hl rfl (nI_1 i) (by decide) rfl (fun ls hl => ?_)
        have hl : lv_has ls 4 [(3, .int (nI (i + 1))), (2, .int sm), (0, .ref (ad 0)), (1, .int k)] := hl
        refine lv_goto (tgt := 4) hx hb dBK_placesWithin_39 rfl ?_
        exact ih (i + 1) sm _ _ _ (by omega) (hsm) hD hP hS hl
      · refine lv_aload_n hx hb dBK_placesWithin_20 rfl (lv_at hl 2 rfl) ?_
        refine g_BK_9 X hP (by omega) (h0) rfl dBK_placesWithin_21 ?_
        refine lv_iload_n hx hb dBK_placesWithin_24 rfl (lv_at hl 0 rfl) ?_
        refine q_iald i X hP (by omega) (h1) (rfl) (by omega) (by decide) dBK_placesWithin_25 ?_
        refine lv_iload_n hx hb dBK_placesWithin_26 rfl (lv_at hl 3 rfl) ?_
        refine lv_icmp_ge (tgt := 36) hx hb dBK_placesWithin_27 rfl (fun h27 => ?_) (fun h27 => ?_)
        · refine lv_iinc (k := 0) (v := nI (i + 1)) hx hb dBK_placesWithin_36 hl rfl (nI_1 i) (by decide) rfl (fun ls hl => ?_)
          have hl : lv_has ls 4 [(3, .int (nI (i + 1))), (2, .int sm), (0, .ref (ad 0)), (1, .int k)] := hl
          refine lv_goto (tgt := 4) hx hb dBK_placesWithin_39 rfl ?_
          exact ih (i + 1) sm _ _ _ (by omega) (hsm) hD hP hS hl
        · refine lv_iload_n hx hb dBK_placesWithin_30 rfl (lv_at hl 1 rfl) ?_
          refine lv_iconst (v := 1) hx hb dBK_placesWithin_31 (by decide) ?_
          refine lv_iload_n hx hb dBK_placesWithin_32 rfl (lv_at hl 0 rfl) ?_
          refine lv_ishl hx hb dBK_placesWithin_33 ?_
          refine lv_iadd hx hb dBK_placesWithin_34 ?_
          refine lv_istore_n hx hb dBK_placesWithin_35 rfl hl (by decide) rfl (fun ls hl => ?_)
          have hl : lv_has ls 4 [(2, .int (sm + (1 <<< ((nI i) &&& 31)))), (3, .int (nI i)), (0, .ref (ad 0)), (1, .int k)] := hl
          refine lv_iinc (k := 1) (v := nI (i + 1)) hx hb dBK_placesWithin_36 hl rfl (nI_1 i) (by decide) rfl (fun ls hl => ?_)
          have hl : lv_has ls 4 [(3, .int (nI (i + 1))), (2, .int (sm + (1 <<< ((nI i) &&& 31)))), (0, .ref (ad 0)), (1, .int k)] := hl
          refine lv_goto (tgt := 4) hx hb dBK_placesWithin_39 rfl ?_
          exact ih (i + 1) (sm + (1 <<< ((nI i) &&& 31))) _ _ _ (by omega) (fun q => absurd (q i (by omega)) h17) hD hP hS hl
  exact loop 8 0 0 _ _ _ (by omega) (fun _ => rfl) hD hP hS hl
set_option maxHeartbeats 4000000 in
set_option maxRecDepth 100000 in
theorem c_RW_events (l : Launch) (D : va_G) (tc : Nat → ClassId) (ad : Nat → Nat) (E : Nat → va_E)  (hF : RWf tc ad E) : Ct l D tc yRW_events 0 66 ad E [.ref (ad 0)] (fun o E2 => o = .returned (some (.int 0)) ∧ E2 = E) := by
  refine Ct.ofW (cc := cRW_events) (maxL := 1) (ret := (some .int)) (own := R_RW) (by decide) rfl w_214 (Nat.le_of_ble_eq_true rfl) ?_
  intro p e s m args below meth c ls X hlk hr hD hP hS hl
  have hx := X.1
  have hb := X.2.1
  have hl : lv_has ls 1 [(0, .ref (ad 0))] := hl
  have hF0 := hF
  obtain ⟨hR, hpg, hwk, hlo3, hck, ⟨fc, fk, tt0, tt1, tt2⟩, ⟨fr, fp, fw, fd, ⟨b0, b1, b2, b3, b4⟩, hfr, hfp, hfw, hfd⟩, ⟨cr, cp, cw, cd, ⟨c0, c1, c2, c3, c4⟩, hcr, hcp, hcw, hcd⟩⟩ := hF
  have hR0 := hR
  obtain ⟨rh0, ⟨ra1, rh1, rx1⟩, ⟨ra2, rh2, rx2⟩, ⟨ra3, rh3, rx3⟩, ⟨ra4, rh4, rx4⟩⟩ := hR
  refine lv_aload_n hx hb dRW_events_0 rfl (lv_at hl 0 rfl) ?_
  refine g_RW_40 X hP (by omega) (rh0) rfl dRW_events_1 ?_
  refine g_RW_152 X hP (by omega) (tt0) rfl dRW_events_4 ?_
  exact q_iret X hlk hr hP hS dRW_events_7 (⟨rfl, rfl⟩)
set_option maxHeartbeats 4000000 in
set_option maxRecDepth 100000 in
theorem c_RW_event (l : Launch) (D : va_G) (tc : Nat → ClassId) (ad : Nat → Nat) (E : Nat → va_E) (k : Int32) (hF : RWf tc ad E) : Ct l D tc yRW_event 1 66 ad E [.ref (ad 0), .int k] (fun o E2 => o = .returned (some (.int (-1))) ∧ E2 = E) := by
  refine Ct.ofW (cc := cRW_event) (maxL := 2) (ret := (some .int)) (own := R_RW) (by decide) rfl w_218 (Nat.le_of_ble_eq_true rfl) ?_
  intro p e s m args below meth c ls X hlk hr hD hP hS hl
  have hx := X.1
  have hb := X.2.1
  have hl : lv_has ls 2 [(0, .ref (ad 0)), (1, .int k)] := hl
  have hF0 := hF
  obtain ⟨hR, hpg, hwk, hlo3, hck, ⟨fc, fk, tt0, tt1, tt2⟩, ⟨fr, fp, fw, fd, ⟨b0, b1, b2, b3, b4⟩, hfr, hfp, hfw, hfd⟩, ⟨cr, cp, cw, cd, ⟨c0, c1, c2, c3, c4⟩, hcr, hcp, hcw, hcd⟩⟩ := hF
  have hR0 := hR
  obtain ⟨rh0, ⟨ra1, rh1, rx1⟩, ⟨ra2, rh2, rx2⟩, ⟨ra3, rh3, rx3⟩, ⟨ra4, rh4, rx4⟩⟩ := hR
  refine lv_aload_n hx hb dRW_event_0 rfl (lv_at hl 0 rfl) ?_
  refine g_RW_40 X hP (by omega) (rh0) rfl dRW_event_1 ?_
  refine lv_iload_n hx hb dRW_event_4 rfl (lv_at hl 1 rfl) ?_
  refine x_iE (f := fun k => 53 + k) (x_runVN (C := R_TR) (As := [.int k]) (rest := []) X (c_TR_has l D tc (fun k => ad (53 + k)) (fun k => E (53 + k)) 0 _ _ k tt0 (by decide)) rfl rfl (by decide) (by decide) w_222 w_6 w_219 w_221 sel_TR_has ry_TR_has (x_recv X hP (by omega) (tt0) rfl) (ct_pre X hP hD (fr_lt 3 66 53 (by omega)) (fr_inj 3 53)) ct_blind hl.1 (Nat.le_of_ble_eq_true rfl) dRW_event_5 ⟨Nat.zero_le _, Nat.zero_le _⟩) hD hP hS (fr_lt 3 66 53 (by omega)) (fr_inj 3 53) (fun H locs hD hP hS => ?_)
  refine lv_if_eq (tgt := 23) hx hb dRW_event_8 rfl (fun h8 => ?_) (fun h8 => absurd (by rw [wi_0]; rfl) h8)
  refine lv_iconst (v := (-1)) hx hb dRW_event_23 (by decide) ?_
  exact q_iret X hlk hr hP hS dRW_event_24 (⟨rfl, rfl⟩)
set_option maxHeartbeats 4000000 in
set_option maxRecDepth 100000 in
theorem c_RW_before (l : Launch) (D : va_G) (tc : Nat → ClassId) (ad : Nat → Nat) (E : Nat → va_E) (i j : Int32) (hF : RWf tc ad E) : Ct l D tc yRW_before 1 66 ad E [.ref (ad 0), .int i, .int j] (fun o E2 => o = .returned (some (.int 0)) ∧ E2 = E) := by
  refine Ct.ofW (cc := cRW_before) (maxL := 3) (ret := (some .boolean)) (own := R_RW) (by decide) rfl w_226 (Nat.le_of_ble_eq_true rfl) ?_
  intro p e s m args below meth c ls X hlk hr hD hP hS hl
  have hx := X.1
  have hb := X.2.1
  have hl : lv_has ls 3 [(0, .ref (ad 0)), (1, .int i), (2, .int j)] := hl
  have hF0 := hF
  obtain ⟨hR, hpg, hwk, hlo3, hck, ⟨fc, fk, tt0, tt1, tt2⟩, ⟨fr, fp, fw, fd, ⟨b0, b1, b2, b3, b4⟩, hfr, hfp, hfw, hfd⟩, ⟨cr, cp, cw, cd, ⟨c0, c1, c2, c3, c4⟩, hcr, hcp, hcw, hcd⟩⟩ := hF
  have hR0 := hR
  obtain ⟨rh0, ⟨ra1, rh1, rx1⟩, ⟨ra2, rh2, rx2⟩, ⟨ra3, rh3, rx3⟩, ⟨ra4, rh4, rx4⟩⟩ := hR
  refine lv_aload_n hx hb dRW_before_0 rfl (lv_at hl 0 rfl) ?_
  refine g_RW_40 X hP (by omega) (rh0) rfl dRW_before_1 ?_
  refine lv_iload_n hx hb dRW_before_4 rfl (lv_at hl 1 rfl) ?_
  refine x_iE (f := fun k => 53 + k) (x_runVN (C := R_TR) (As := [.int i]) (rest := []) X (c_TR_has l D tc (fun k => ad (53 + k)) (fun k => E (53 + k)) 0 _ _ i tt0 (by decide)) rfl rfl (by decide) (by decide) w_222 w_6 w_219 w_221 sel_TR_has ry_TR_has (x_recv X hP (by omega) (tt0) rfl) (ct_pre X hP hD (fr_lt 3 66 53 (by omega)) (fr_inj 3 53)) ct_blind hl.1 (Nat.le_of_ble_eq_true rfl) dRW_before_5 ⟨Nat.zero_le _, Nat.zero_le _⟩) hD hP hS (fr_lt 3 66 53 (by omega)) (fr_inj 3 53) (fun H locs hD hP hS => ?_)
  refine lv_if_eq (tgt := 38) hx hb dRW_before_8 rfl (fun h8 => ?_) (fun h8 => absurd (by rw [wi_0]; rfl) h8)
  refine lv_iconst (v := 0) hx hb dRW_before_38 (by decide) ?_
  exact q_zret X hlk hr (by decide) hP hS dRW_before_39 (⟨rfl, rfl⟩)
set_option maxHeartbeats 4000000 in
set_option maxRecDepth 100000 in
theorem c_RW_state (l : Launch) (D : va_G) (tc : Nat → ClassId) (ad : Nat → Nat) (E : Nat → va_E) (t : Int32) (hF : RWf tc ad E) : Ct l D tc yRW_state 1 66 ad E [.ref (ad 0), .int t] (fun o E2 => o = .returned (some (.long (-1))) ∧ E2 = E) := by
  refine Ct.ofW (cc := cRW_state) (maxL := 3) (ret := (some .long)) (own := R_RW) (by decide) rfl w_203 (Nat.le_of_ble_eq_true rfl) ?_
  intro p e s m args below meth c ls X hlk hr hD hP hS hl
  have hx := X.1
  have hb := X.2.1
  have hl : lv_has ls 3 [(0, .ref (ad 0)), (1, .int t)] := hl
  have hF0 := hF
  obtain ⟨hR, hpg, hwk, hlo3, hck, ⟨fc, fk, tt0, tt1, tt2⟩, ⟨fr, fp, fw, fd, ⟨b0, b1, b2, b3, b4⟩, hfr, hfp, hfw, hfd⟩, ⟨cr, cp, cw, cd, ⟨c0, c1, c2, c3, c4⟩, hcr, hcp, hcw, hcd⟩⟩ := hF
  have hR0 := hR
  obtain ⟨rh0, ⟨ra1, rh1, rx1⟩, ⟨ra2, rh2, rx2⟩, ⟨ra3, rh3, rx3⟩, ⟨ra4, rh4, rx4⟩⟩ := hR
  refine lv_aload_n hx hb dRW_state_0 rfl (lv_at hl 0 rfl) ?_
  refine g_RW_54 X hP (by omega) (rh0) rfl dRW_state_1 ?_
  refine lv_if_eq (tgt := 14) hx hb dRW_state_4 rfl (fun h4 => ?_) (fun h4 => absurd (rfl) h4)
  refine lv_ldc2 (v := (-1)) hx hb X.2.2.2.1 (X.2.2.2.2.1 _ w_204) dRW_state_14 ?_
  exact q_lret X hlk hr hP hS dRW_state_17 (⟨rfl, rfl⟩)
set_option maxHeartbeats 4000000 in
set_option maxRecDepth 100000 in
theorem c_RW_holder (l : Launch) (D : va_G) (tc : Nat → ClassId) (ad : Nat → Nat) (E : Nat → va_E) (l1 : Int32) (hF : RWf tc ad E) : Ct l D tc yRW_holder 1 66 ad E [.ref (ad 0), .int l1] (fun o E2 => o = .returned (some (.int (-1))) ∧ E2 = E) := by
  refine Ct.ofW (cc := cRW_holder) (maxL := 2) (ret := (some .int)) (own := R_RW) (by decide) rfl w_210 (Nat.le_of_ble_eq_true rfl) ?_
  intro p e s m args below meth c ls X hlk hr hD hP hS hl
  have hx := X.1
  have hb := X.2.1
  have hl : lv_has ls 2 [(0, .ref (ad 0)), (1, .int l1)] := hl
  have hF0 := hF
  obtain ⟨hR, hpg, hwk, hlo3, hck, ⟨fc, fk, tt0, tt1, tt2⟩, ⟨fr, fp, fw, fd, ⟨b0, b1, b2, b3, b4⟩, hfr, hfp, hfw, hfd⟩, ⟨cr, cp, cw, cd, ⟨c0, c1, c2, c3, c4⟩, hcr, hcp, hcw, hcd⟩⟩ := hF
  have hR0 := hR
  obtain ⟨rh0, ⟨ra1, rh1, rx1⟩, ⟨ra2, rh2, rx2⟩, ⟨ra3, rh3, rx3⟩, ⟨ra4, rh4, rx4⟩⟩ := hR
  refine lv_iload_n hx hb dRW_holder_0 rfl (lv_at hl 1 rfl) ?_
  refine lv_if_lt (tgt := 21) hx hb dRW_holder_1 rfl (fun h1 => ?_) (fun h1 => ?_)
  · refine lv_iconst (v := (-1)) hx hb dRW_holder_21 (by decide) ?_
    exact q_iret X hlk hr hP hS dRW_holder_22 (⟨rfl, rfl⟩)
  · refine lv_iload_n hx hb dRW_holder_4 rfl (lv_at hl 1 rfl) ?_
    refine lv_iconst (v := 3) hx hb dRW_holder_5 (by decide) ?_
    refine lv_icmp_ge (tgt := 21) hx hb dRW_holder_6 rfl (fun h6 => ?_) (fun h6 => ?_)
    · refine lv_iconst (v := (-1)) hx hb dRW_holder_21 (by decide) ?_
      exact q_iret X hlk hr hP hS dRW_holder_22 (⟨rfl, rfl⟩)
    · obtain ⟨j, hj, rfl⟩ := wi_of (n := 3) (by decide) (wi_t (N := 3) (by decide) h1 h6)
      obtain ⟨lk0, lk1, lkf, lk2⟩ := hlo3 j hj
      refine lv_aload_n hx hb dRW_holder_9 rfl (lv_at hl 0 rfl) ?_
      refine g_RW_25 X hP (by omega) (rh0) rfl dRW_holder_10 ?_
      refine lv_iload_n hx hb dRW_holder_13 rfl (lv_at hl 1 rfl) ?_
      refine q_aald (t0 := 5) j X hP (by omega) (rh3) rfl (rfl) (by omega) (by decide) (rx3 j (by omega)) dRW_holder_14 ?_
      refine g_RW_146 X hP (by omega) (lk0) rfl dRW_holder_15 ?_
      refine lv_if_ne (tgt := 23) hx hb dRW_holder_18 rfl (fun h18 => absurd h18 (fun q => q rfl)) (fun h18 => ?_)
      refine lv_iconst (v := (-1)) hx hb dRW_holder_21 (by decide) ?_
      exact q_iret X hlk hr hP hS dRW_holder_22 (⟨rfl, rfl⟩)
set_option maxHeartbeats 4000000 in
set_option maxRecDepth 100000 in
theorem c_RW_race (l : Launch) (D : va_G) (tc : Nat → ClassId) (ad : Nat → Nat) (E : Nat → va_E) (p1 : Int32) (hF : RWf tc ad E) : Ct l D tc yRW_race 2 66 ad E [.ref (ad 0), .int p1] (fun o E2 => o = .returned (some (.int (-1))) ∧ E2 = E) := by
  refine Ct.ofW (cc := cRW_race) (maxL := 2) (ret := (some .int)) (own := R_RW) (by decide) rfl w_238 (Nat.le_of_ble_eq_true rfl) ?_
  intro p e s m args below meth c ls X hlk hr hD hP hS hl
  have hx := X.1
  have hb := X.2.1
  have hl : lv_has ls 2 [(0, .ref (ad 0)), (1, .int p1)] := hl
  have hF0 := hF
  obtain ⟨hR, hpg, hwk, hlo3, hck, ⟨fc, fk, tt0, tt1, tt2⟩, ⟨fr, fp, fw, fd, ⟨b0, b1, b2, b3, b4⟩, hfr, hfp, hfw, hfd⟩, ⟨cr, cp, cw, cd, ⟨c0, c1, c2, c3, c4⟩, hcr, hcp, hcw, hcd⟩⟩ := hF
  have hR0 := hR
  obtain ⟨rh0, ⟨ra1, rh1, rx1⟩, ⟨ra2, rh2, rx2⟩, ⟨ra3, rh3, rx3⟩, ⟨ra4, rh4, rx4⟩⟩ := hR
  refine lv_iload_n hx hb dRW_race_0 rfl (lv_at hl 1 rfl) ?_
  refine x_iE (f := fun k => 0 + k) (x_runS (As := [.int p1]) (rest := []) X (c_RW_isVariable l D tc (fun k => ad (0 + k)) (fun k => E (0 + k)) p1) rfl rfl (by decide) (by decide) w_167 w_1 w_165 w_166 ry_RW_isVariable (ct_pre X hP hD (fr_lt 0 66 0 (by omega)) (fr_inj 0 0)) ct_blind hl.1 (Nat.le_of_ble_eq_true rfl) dRW_race_1 ⟨Nat.zero_le _, Nat.zero_le _⟩) hD hP hS (fr_lt 0 66 0 (by omega)) (fr_inj 0 0) (fun H locs hD hP hS => ?_)
  refine lv_if_eq (tgt := 19) hx hb dRW_race_4 rfl (fun h4 => ?_) (fun h4 => ?_)
  · refine lv_iconst (v := (-1)) hx hb dRW_race_19 (by decide) ?_
    exact q_iret X hlk hr hP hS dRW_race_20 (⟨rfl, rfl⟩)
  · obtain ⟨j, hj, rfl⟩ := wi_of (n := 8) (by decide) (bi_t h4)
    refine lv_aload_n hx hb dRW_race_7 rfl (lv_at hl 0 rfl) ?_
    refine x_rE (v := ad 56) (f := fun k => 0 + k) (x_runV (C := R_RW) (As := []) (rest := []) X (c_RW_ownBook l D tc (fun k => ad (0 + k)) (fun k => E (0 + k)) 0 0 (by simpa only [Nat.zero_add] using hR0)) rfl rfl (by decide) (by decide) w_242 w_1 w_239 w_241 sel_RW_ownBook ry_RW_ownBook (x_recv X hP (by omega) (rh0) rfl) (ct_pre X hP hD (fr_lt 66 66 0 (by omega)) (fr_inj 66 0)) ct_blind hl.1 (Nat.le_of_ble_eq_true rfl) dRW_race_8 ⟨Nat.zero_le _, Nat.zero_le _⟩) hD hP hS (fr_lt 66 66 0 (by omega)) (fr_inj 66 0) (fun H locs hD hP hS => ?_)
    refine g_RW_171 X hP (by omega) (b0) rfl dRW_race_11 ?_
    refine lv_iload_n hx hb dRW_race_14 rfl (lv_at hl 1 rfl) ?_
    refine q_iald j X hP (by omega) (b1) (rfl) (by omega) (by decide) dRW_race_15 ?_
    refine lv_goto (tgt := 20) hx hb dRW_race_16 rfl ?_
    exact q_iret X hlk hr hP hS dRW_race_20 (⟨by rw [hfr j hj], rfl⟩)
set_option maxHeartbeats 4000000 in
set_option maxRecDepth 100000 in
theorem c_RW_partner (l : Launch) (D : va_G) (tc : Nat → ClassId) (ad : Nat → Nat) (E : Nat → va_E) (p1 : Int32) (hF : RWf tc ad E) : Ct l D tc yRW_partner 2 66 ad E [.ref (ad 0), .int p1] (fun o E2 => o = .returned (some (.int (-1))) ∧ E2 = E) := by
  refine Ct.ofW (cc := cRW_partner) (maxL := 2) (ret := (some .int)) (own := R_RW) (by decide) rfl w_250 (Nat.le_of_ble_eq_true rfl) ?_
  intro p e s m args below meth c ls X hlk hr hD hP hS hl
  have hx := X.1
  have hb := X.2.1
  have hl : lv_has ls 2 [(0, .ref (ad 0)), (1, .int p1)] := hl
  have hF0 := hF
  obtain ⟨hR, hpg, hwk, hlo3, hck, ⟨fc, fk, tt0, tt1, tt2⟩, ⟨fr, fp, fw, fd, ⟨b0, b1, b2, b3, b4⟩, hfr, hfp, hfw, hfd⟩, ⟨cr, cp, cw, cd, ⟨c0, c1, c2, c3, c4⟩, hcr, hcp, hcw, hcd⟩⟩ := hF
  have hR0 := hR
  obtain ⟨rh0, ⟨ra1, rh1, rx1⟩, ⟨ra2, rh2, rx2⟩, ⟨ra3, rh3, rx3⟩, ⟨ra4, rh4, rx4⟩⟩ := hR
  refine lv_iload_n hx hb dRW_partner_0 rfl (lv_at hl 1 rfl) ?_
  refine x_iE (f := fun k => 0 + k) (x_runS (As := [.int p1]) (rest := []) X (c_RW_isVariable l D tc (fun k => ad (0 + k)) (fun k => E (0 + k)) p1) rfl rfl (by decide) (by decide) w_167 w_1 w_165 w_166 ry_RW_isVariable (ct_pre X hP hD (fr_lt 0 66 0 (by omega)) (fr_inj 0 0)) ct_blind hl.1 (Nat.le_of_ble_eq_true rfl) dRW_partner_1 ⟨Nat.zero_le _, Nat.zero_le _⟩) hD hP hS (fr_lt 0 66 0 (by omega)) (fr_inj 0 0) (fun H locs hD hP hS => ?_)
  refine lv_if_eq (tgt := 19) hx hb dRW_partner_4 rfl (fun h4 => ?_) (fun h4 => ?_)
  · refine lv_iconst (v := (-1)) hx hb dRW_partner_19 (by decide) ?_
    exact q_iret X hlk hr hP hS dRW_partner_20 (⟨rfl, rfl⟩)
  · obtain ⟨j, hj, rfl⟩ := wi_of (n := 8) (by decide) (bi_t h4)
    refine lv_aload_n hx hb dRW_partner_7 rfl (lv_at hl 0 rfl) ?_
    refine x_rE (v := ad 56) (f := fun k => 0 + k) (x_runV (C := R_RW) (As := []) (rest := []) X (c_RW_ownBook l D tc (fun k => ad (0 + k)) (fun k => E (0 + k)) 0 0 (by simpa only [Nat.zero_add] using hR0)) rfl rfl (by decide) (by decide) w_242 w_1 w_239 w_241 sel_RW_ownBook ry_RW_ownBook (x_recv X hP (by omega) (rh0) rfl) (ct_pre X hP hD (fr_lt 66 66 0 (by omega)) (fr_inj 66 0)) ct_blind hl.1 (Nat.le_of_ble_eq_true rfl) dRW_partner_8 ⟨Nat.zero_le _, Nat.zero_le _⟩) hD hP hS (fr_lt 66 66 0 (by omega)) (fr_inj 66 0) (fun H locs hD hP hS => ?_)
    refine g_RW_174 X hP (by omega) (b0) rfl dRW_partner_11 ?_
    refine lv_iload_n hx hb dRW_partner_14 rfl (lv_at hl 1 rfl) ?_
    refine q_iald j X hP (by omega) (b2) (rfl) (by omega) (by decide) dRW_partner_15 ?_
    refine lv_goto (tgt := 20) hx hb dRW_partner_16 rfl ?_
    exact q_iret X hlk hr hP hS dRW_partner_20 (⟨by rw [hfp j hj], rfl⟩)
set_option maxHeartbeats 4000000 in
set_option maxRecDepth 100000 in
theorem c_RW_races (l : Launch) (D : va_G) (tc : Nat → ClassId) (ad : Nat → Nat) (E : Nat → va_E)  (hF : RWf tc ad E) : Ct l D tc yRW_races 2 66 ad E [.ref (ad 0)] (fun o E2 => o = .returned (some (.int 0)) ∧ E2 = E) := by
  refine Ct.ofW (cc := cRW_races) (maxL := 1) (ret := (some .int)) (own := R_RW) (by decide) rfl w_254 (Nat.le_of_ble_eq_true rfl) ?_
  intro p e s m args below meth c ls X hlk hr hD hP hS hl
  have hx := X.1
  have hb := X.2.1
  have hl : lv_has ls 1 [(0, .ref (ad 0))] := hl
  have hF0 := hF
  obtain ⟨hR, hpg, hwk, hlo3, hck, ⟨fc, fk, tt0, tt1, tt2⟩, ⟨fr, fp, fw, fd, ⟨b0, b1, b2, b3, b4⟩, hfr, hfp, hfw, hfd⟩, ⟨cr, cp, cw, cd, ⟨c0, c1, c2, c3, c4⟩, hcr, hcp, hcw, hcd⟩⟩ := hF
  have hR0 := hR
  obtain ⟨rh0, ⟨ra1, rh1, rx1⟩, ⟨ra2, rh2, rx2⟩, ⟨ra3, rh3, rx3⟩, ⟨ra4, rh4, rx4⟩⟩ := hR
  refine lv_aload_n hx hb dRW_races_0 rfl (lv_at hl 0 rfl) ?_
  refine x_rE (v := ad 56) (f := fun k => 0 + k) (x_runV (C := R_RW) (As := []) (rest := []) X (c_RW_ownBook l D tc (fun k => ad (0 + k)) (fun k => E (0 + k)) 0 0 (by simpa only [Nat.zero_add] using hR0)) rfl rfl (by decide) (by decide) w_242 w_1 w_239 w_241 sel_RW_ownBook ry_RW_ownBook (x_recv X hP (by omega) (rh0) rfl) (ct_pre X hP hD (fr_lt 66 66 0 (by omega)) (fr_inj 66 0)) ct_blind hl.1 (Nat.le_of_ble_eq_true rfl) dRW_races_1 ⟨Nat.zero_le _, Nat.zero_le _⟩) hD hP hS (fr_lt 66 66 0 (by omega)) (fr_inj 66 0) (fun H locs hD hP hS => ?_)
  refine lv_aload_n hx hb dRW_races_4 rfl (lv_at hl 0 rfl) ?_
  refine g_RW_40 X hP (by omega) (rh0) rfl dRW_races_5 ?_
  refine g_RW_152 X hP (by omega) (tt0) rfl dRW_races_8 ?_
  refine x_iX (f := fun k => 56 + k) (x_runVN (C := R_BK) (As := [.int (nI 0)]) (rest := []) X (c_BK_placesWithin l D tc (fun k => ad (56 + k)) (fun k => E (56 + k)) fr _ _ _ (nI 0) b0 b1) rfl rfl (by decide) (by decide) w_258 w_7 w_255 w_257 sel_BK_placesWithin ry_BK_placesWithin (x_recv X hP (by omega) (b0) rfl) (ct_pre X hP hD (fr_lt 5 66 56 (by omega)) (fr_inj 5 56)) ct_blind hl.1 (Nat.le_of_ble_eq_true rfl) dRW_races_11 ⟨Nat.zero_le _, Nat.zero_le _⟩) hD hP hS (fr_lt 5 66 56 (by omega)) (fr_inj 5 56) (fun z H locs hz hD hP hS => ?_)
  refine x_iX (f := fun k => 0 + k) (x_runS (As := [.int z]) (rest := []) X (c_IN_bitCount l D tc (fun k => ad (0 + k)) (fun k => E (0 + k)) z) rfl rfl (by decide) (by decide) w_261 w_19 w_259 w_260 ry_IN_bitCount (ct_pre X hP hD (fr_lt 0 66 0 (by omega)) (fr_inj 0 0)) ct_blind hl.1 (Nat.le_of_ble_eq_true rfl) dRW_races_14 ⟨Nat.zero_le _, Nat.zero_le _⟩) hD hP hS (fr_lt 0 66 0 (by omega)) (fr_inj 0 0) (fun y H locs hy hD hP hS => ?_)
  exact q_iret X hlk hr hP hS dRW_races_17 (⟨by rw [hy (hz hfr)], rfl⟩)
end
section
theorem dRW_again_0 : decode cRW_again 0 = .ok (.iload_n 1, 1) := by decide +kernel
theorem dRW_again_1 : decode cRW_again 1 = .ok (.ifCond .lt 14, 3) := by decide +kernel
theorem dRW_again_4 : decode cRW_again 4 = .ok (.iload_n 1, 1) := by decide +kernel
theorem dRW_again_5 : decode cRW_again 5 = .ok (.aload_n 0, 1) := by decide +kernel
theorem dRW_again_6 : decode cRW_again 6 = .ok (.getfield 40, 3) := by decide +kernel
theorem dRW_again_9 : decode cRW_again 9 = .ok (.getfield 152, 3) := by decide +kernel
theorem dRW_again_12 : decode cRW_again 12 = .ok (.if_icmp .le 5, 3) := by decide +kernel
theorem dRW_again_15 : decode cRW_again 15 = .ok (.iconst (-1), 1) := by decide +kernel
theorem dRW_again_16 : decode cRW_again 16 = .ok (.ireturn, 1) := by decide +kernel
theorem dRW_again_17 : decode cRW_again 17 = .ok (.aload_n 0, 1) := by decide +kernel
theorem dRW_again_18 : decode cRW_again 18 = .ok (.iload_n 2, 1) := by decide +kernel
theorem dRW_again_19 : decode cRW_again 19 = .ok (.invokevirtual 186, 3) := by decide +kernel
theorem dRW_again_22 : decode cRW_again 22 = .ok (.iload_n 1, 1) := by decide +kernel
theorem dRW_again_23 : decode cRW_again 23 = .ok (.invokevirtual 177, 3) := by decide +kernel
theorem dRW_again_26 : decode cRW_again 26 = .ok (.ireturn, 1) := by decide +kernel
theorem dRW_clear_0 : decode cRW_clear 0 = .ok (.iconst 0, 1) := by decide +kernel
theorem dRW_clear_1 : decode cRW_clear 1 = .ok (.istore_n 1, 1) := by decide +kernel
theorem dRW_clear_2 : decode cRW_clear 2 = .ok (.iload_n 1, 1) := by decide +kernel
theorem dRW_clear_3 : decode cRW_clear 3 = .ok (.iconst 5, 1) := by decide +kernel
theorem dRW_clear_4 : decode cRW_clear 4 = .ok (.if_icmp .ge 27, 3) := by decide +kernel
theorem dRW_clear_7 : decode cRW_clear 7 = .ok (.aload_n 0, 1) := by decide +kernel
theorem dRW_clear_8 : decode cRW_clear 8 = .ok (.getfield 11, 3) := by decide +kernel
theorem dRW_clear_11 : decode cRW_clear 11 = .ok (.iload_n 1, 1) := by decide +kernel
theorem dRW_clear_12 : decode cRW_clear 12 = .ok (.aaload, 1) := by decide +kernel
theorem dRW_clear_13 : decode cRW_clear 13 = .ok (.invokevirtual 77, 3) := by decide +kernel
theorem dRW_clear_16 : decode cRW_clear 16 = .ok (.aload_n 0, 1) := by decide +kernel
theorem dRW_clear_17 : decode cRW_clear 17 = .ok (.getfield 17, 3) := by decide +kernel
theorem dRW_clear_20 : decode cRW_clear 20 = .ok (.iload_n 1, 1) := by decide +kernel
theorem dRW_clear_21 : decode cRW_clear 21 = .ok (.aaload, 1) := by decide +kernel
theorem dRW_clear_22 : decode cRW_clear 22 = .ok (.invokevirtual 80, 3) := by decide +kernel
theorem dRW_clear_25 : decode cRW_clear 25 = .ok (.iinc 1 1, 3) := by decide +kernel
theorem dRW_clear_28 : decode cRW_clear 28 = .ok (.goto (-26), 3) := by decide +kernel
theorem dRW_clear_31 : decode cRW_clear 31 = .ok (.iconst 0, 1) := by decide +kernel
theorem dRW_clear_32 : decode cRW_clear 32 = .ok (.istore_n 1, 1) := by decide +kernel
theorem dRW_clear_33 : decode cRW_clear 33 = .ok (.iload_n 1, 1) := by decide +kernel
theorem dRW_clear_34 : decode cRW_clear 34 = .ok (.iconst 3, 1) := by decide +kernel
theorem dRW_clear_35 : decode cRW_clear 35 = .ok (.if_icmp .ge 18, 3) := by decide +kernel
theorem dRW_clear_38 : decode cRW_clear 38 = .ok (.aload_n 0, 1) := by decide +kernel
theorem dRW_clear_39 : decode cRW_clear 39 = .ok (.getfield 25, 3) := by decide +kernel
theorem dRW_clear_42 : decode cRW_clear 42 = .ok (.iload_n 1, 1) := by decide +kernel
theorem dRW_clear_43 : decode cRW_clear 43 = .ok (.aaload, 1) := by decide +kernel
theorem dRW_clear_44 : decode cRW_clear 44 = .ok (.invokevirtual 81, 3) := by decide +kernel
theorem dRW_clear_47 : decode cRW_clear 47 = .ok (.iinc 1 1, 3) := by decide +kernel
theorem dRW_clear_50 : decode cRW_clear 50 = .ok (.goto (-17), 3) := by decide +kernel
theorem dRW_clear_53 : decode cRW_clear 53 = .ok (.iconst 0, 1) := by decide +kernel
theorem dRW_clear_54 : decode cRW_clear 54 = .ok (.istore_n 1, 1) := by decide +kernel
theorem dRW_clear_55 : decode cRW_clear 55 = .ok (.iload_n 1, 1) := by decide +kernel
theorem dRW_clear_56 : decode cRW_clear 56 = .ok (.iconst 2, 1) := by decide +kernel
theorem dRW_clear_57 : decode cRW_clear 57 = .ok (.if_icmp .ge 18, 3) := by decide +kernel
theorem dRW_clear_60 : decode cRW_clear 60 = .ok (.aload_n 0, 1) := by decide +kernel
theorem dRW_clear_61 : decode cRW_clear 61 = .ok (.getfield 32, 3) := by decide +kernel
theorem dRW_clear_64 : decode cRW_clear 64 = .ok (.iload_n 1, 1) := by decide +kernel
theorem dRW_clear_65 : decode cRW_clear 65 = .ok (.aaload, 1) := by decide +kernel
theorem dRW_clear_66 : decode cRW_clear 66 = .ok (.invokevirtual 82, 3) := by decide +kernel
theorem dRW_clear_69 : decode cRW_clear 69 = .ok (.iinc 1 1, 3) := by decide +kernel
theorem dRW_clear_72 : decode cRW_clear 72 = .ok (.goto (-17), 3) := by decide +kernel
theorem dRW_clear_75 : decode cRW_clear 75 = .ok (.aload_n 0, 1) := by decide +kernel
theorem dRW_clear_76 : decode cRW_clear 76 = .ok (.getfield 40, 3) := by decide +kernel
theorem dRW_clear_79 : decode cRW_clear 79 = .ok (.invokevirtual 83, 3) := by decide +kernel
theorem dRW_clear_82 : decode cRW_clear 82 = .ok (.aload_n 0, 1) := by decide +kernel
theorem dRW_clear_83 : decode cRW_clear 83 = .ok (.getfield 47, 3) := by decide +kernel
theorem dRW_clear_86 : decode cRW_clear 86 = .ok (.invokevirtual 84, 3) := by decide +kernel
theorem dRW_clear_89 : decode cRW_clear 89 = .ok (.aload_n 0, 1) := by decide +kernel
theorem dRW_clear_90 : decode cRW_clear 90 = .ok (.getfield 51, 3) := by decide +kernel
theorem dRW_clear_93 : decode cRW_clear 93 = .ok (.invokevirtual 84, 3) := by decide +kernel
theorem dRW_clear_96 : decode cRW_clear 96 = .ok (.aload_n 0, 1) := by decide +kernel
theorem dRW_clear_97 : decode cRW_clear 97 = .ok (.iconst 0, 1) := by decide +kernel
theorem dRW_clear_98 : decode cRW_clear 98 = .ok (.putfield 54, 3) := by decide +kernel
theorem dRW_clear_101 : decode cRW_clear 101 = .ok (.aload_n 0, 1) := by decide +kernel
theorem dRW_clear_102 : decode cRW_clear 102 = .ok (.iconst 0, 1) := by decide +kernel
theorem dRW_clear_103 : decode cRW_clear 103 = .ok (.putfield 58, 3) := by decide +kernel
theorem dRW_clear_106 : decode cRW_clear 106 = .ok (.return_, 1) := by decide +kernel
set_option maxHeartbeats 4000000 in
set_option maxRecDepth 100000 in
theorem c_RW_again (l : Launch) (D : va_G) (tc : Nat → ClassId) (ad : Nat → Nat) (E : Nat → va_E) (k cb : Int32) (hF : RWf tc ad E) : Ct l D tc yRW_again 2 66 ad E [.ref (ad 0), .int k, .int cb] (fun o E2 => o = .returned (some (.int (if k = 0 then 0 else -1))) ∧ E2 = E) := by
  refine Ct.ofW (cc := cRW_again) (maxL := 3) (ret := (some .int)) (own := R_RW) (by decide) rfl w_268 (Nat.le_of_ble_eq_true rfl) ?_
  intro p e s m args below meth c ls X hlk hr hD hP hS hl
  have hx := X.1
  have hb := X.2.1
  have hl : lv_has ls 3 [(0, .ref (ad 0)), (1, .int k), (2, .int cb)] := hl
  have hF0 := hF
  obtain ⟨hR, hpg, hwk, hlo3, hck, ⟨fc, fk, tt0, tt1, tt2⟩, ⟨fr, fp, fw, fd, ⟨b0, b1, b2, b3, b4⟩, hfr, hfp, hfw, hfd⟩, ⟨cr, cp, cw, cd, ⟨c0, c1, c2, c3, c4⟩, hcr, hcp, hcw, hcd⟩⟩ := hF
  have hR0 := hR
  obtain ⟨rh0, ⟨ra1, rh1, rx1⟩, ⟨ra2, rh2, rx2⟩, ⟨ra3, rh3, rx3⟩, ⟨ra4, rh4, rx4⟩⟩ := hR
  refine lv_iload_n hx hb dRW_again_0 rfl (lv_at hl 1 rfl) ?_
  refine lv_if_lt (tgt := 15) hx hb dRW_again_1 rfl (fun h1 => ?_) (fun h1 => ?_)
  · refine lv_iconst (v := (-1)) hx hb dRW_again_15 (by decide) ?_
    exact q_iret X hlk hr hP hS dRW_again_16 (⟨by rw [if_neg (z_ne1 h1)], rfl⟩)
  · refine lv_iload_n hx hb dRW_again_4 rfl (lv_at hl 1 rfl) ?_
    refine lv_aload_n hx hb dRW_again_5 rfl (lv_at hl 0 rfl) ?_
    refine g_RW_40 X hP (by omega) (rh0) rfl dRW_again_6 ?_
    refine g_RW_152 X hP (by omega) (tt0) rfl dRW_again_9 ?_
    refine lv_icmp_le (tgt := 17) hx hb dRW_again_12 rfl (fun h12 => ?_) (fun h12 => ?_)
    · have hk := z_eq h1 h12
      by_cases hc : cb = 0
      · refine lv_aload_n hx hb dRW_again_17 rfl (lv_at hl 0 rfl) ?_
        refine lv_iload_n hx hb dRW_again_18 rfl (lv_at hl 2 rfl) ?_
        refine x_rE (v := ad 56) (f := fun k => 0 + k) (x_runV (C := R_RW) (As := [.int cb]) (rest := []) X (by have h := c_RW_bookOf l D tc (fun k => ad (0 + k)) (fun k => E (0 + k)) 0 0 cb (by simpa only [Nat.zero_add] using hR0); rw [if_pos hc] at h; exact h) rfl rfl (by decide) (by decide) w_246 w_1 w_243 w_245 sel_RW_bookOf ry_RW_bookOf (x_recv X hP (by omega) (rh0) rfl) (ct_pre X hP hD (fr_lt 66 66 0 (by omega)) (fr_inj 66 0)) ct_blind hl.1 (Nat.le_of_ble_eq_true rfl) dRW_again_19 ⟨Nat.zero_le _, Nat.zero_le _⟩) hD hP hS (fr_lt 66 66 0 (by omega)) (fr_inj 66 0) (fun H locs hD hP hS => ?_)
        refine lv_iload_n hx hb dRW_again_22 rfl (lv_at hl 1 rfl) ?_
        refine x_iX (f := fun k => 56 + k) (x_runVN (C := R_BK) (As := [.int k]) (rest := []) X (c_BK_placesWithin l D tc (fun k => ad (56 + k)) (fun k => E (56 + k)) fr _ _ _ k b0 b1) rfl rfl (by decide) (by decide) w_258 w_7 w_255 w_257 sel_BK_placesWithin ry_BK_placesWithin (x_recv X hP (by omega) (b0) rfl) (ct_pre X hP hD (fr_lt 5 66 56 (by omega)) (fr_inj 5 56)) ct_blind hl.1 (Nat.le_of_ble_eq_true rfl) dRW_again_23 ⟨Nat.zero_le _, Nat.zero_le _⟩) hD hP hS (fr_lt 5 66 56 (by omega)) (fr_inj 5 56) (fun z H locs hz hD hP hS => ?_)
        exact q_iret X hlk hr hP hS dRW_again_26 (⟨by rw [hz hfr, if_pos hk], rfl⟩)
      · refine lv_aload_n hx hb dRW_again_17 rfl (lv_at hl 0 rfl) ?_
        refine lv_iload_n hx hb dRW_again_18 rfl (lv_at hl 2 rfl) ?_
        refine x_rE (v := ad 61) (f := fun k => 0 + k) (x_runV (C := R_RW) (As := [.int cb]) (rest := []) X (by have h := c_RW_bookOf l D tc (fun k => ad (0 + k)) (fun k => E (0 + k)) 0 0 cb (by simpa only [Nat.zero_add] using hR0); rw [if_neg hc] at h; exact h) rfl rfl (by decide) (by decide) w_246 w_1 w_243 w_245 sel_RW_bookOf ry_RW_bookOf (x_recv X hP (by omega) (rh0) rfl) (ct_pre X hP hD (fr_lt 66 66 0 (by omega)) (fr_inj 66 0)) ct_blind hl.1 (Nat.le_of_ble_eq_true rfl) dRW_again_19 ⟨Nat.zero_le _, Nat.zero_le _⟩) hD hP hS (fr_lt 66 66 0 (by omega)) (fr_inj 66 0) (fun H locs hD hP hS => ?_)
        refine lv_iload_n hx hb dRW_again_22 rfl (lv_at hl 1 rfl) ?_
        refine x_iX (f := fun k => 61 + k) (x_runVN (C := R_BK) (As := [.int k]) (rest := []) X (c_BK_placesWithin l D tc (fun k => ad (61 + k)) (fun k => E (61 + k)) cr _ _ _ k c0 c1) rfl rfl (by decide) (by decide) w_258 w_7 w_255 w_257 sel_BK_placesWithin ry_BK_placesWithin (x_recv X hP (by omega) (c0) rfl) (ct_pre X hP hD (fr_lt 5 66 61 (by omega)) (fr_inj 5 61)) ct_blind hl.1 (Nat.le_of_ble_eq_true rfl) dRW_again_23 ⟨Nat.zero_le _, Nat.zero_le _⟩) hD hP hS (fr_lt 5 66 61 (by omega)) (fr_inj 5 61) (fun z H locs hz hD hP hS => ?_)
        exact q_iret X hlk hr hP hS dRW_again_26 (⟨by rw [hz hcr, if_pos hk], rfl⟩)
    · refine lv_iconst (v := (-1)) hx hb dRW_again_15 (by decide) ?_
      exact q_iret X hlk hr hP hS dRW_again_16 (⟨by rw [if_neg (z_ne2 h12)], rfl⟩)
set_option maxHeartbeats 4000000 in
set_option maxRecDepth 100000 in
theorem c_RW_clear (l : Launch) (D : va_G) (tc : Nat → ClassId) (ad : Nat → Nat) (E : Nat → va_E) (st cs : Int32) (hX : RWx tc ad E st cs) : Ct l D tc yRW_clear 3 66 ad E [.ref (ad 0)] (fun o E2 => o = .returned none ∧ RWf tc ad E2) := by
  refine Ct.ofW (cc := cRW_clear) (maxL := 2) (ret := none) (own := R_RW) (by decide) rfl w_175 (Nat.le_of_ble_eq_true rfl) ?_
  intro p e s m args below meth c ls X hlk hr hD hP hS hl
  have hx := X.1
  have hb := X.2.1
  have hl : lv_has ls 2 [(0, .ref (ad 0))] := hl
  obtain ⟨hR, hX1, hX2, hX3, hX4, hX5, hX6, hX7⟩ := hX
  refine lv_iconst (v := 0) hx hb dRW_clear_0 (by decide) ?_
  refine lv_istore_n hx hb dRW_clear_1 rfl hl (by decide) rfl (fun ls hl => ?_)
  have hl : lv_has ls 2 [(1, .int 0), (0, .ref (ad 0))] := hl
  have loop1 : ∀ (r i : Nat)  (H : Heap) (locs : List Loc) (ls : Array Slot) (F : Nat → va_E), i + r = 5 → isRW tc ad F st cs → (∀ t, t < i → ∃ fo fa fb : Nat → Int32, isPG tc ad F (3 + 7 * t) 0 fo fa fb) → (∀ t, t < i → isWK tc ad F (7 + 7 * t) 0 0 0) → (∀ t, i ≤ t → t < 5 → ∃ (sz : Nat) (fo fa fb : Nat → Int32), isPG tc ad F (3 + 7 * t) sz fo fa fb) → (∀ t, i ≤ t → t < 5 → ∃ (ph nx : Int32) (rg : Int64), isWK tc ad F (7 + 7 * t) ph nx rg) → (∀ t, t < 3 → ∃ ow dp : Int32, isLK tc ad F (39 + 3 * t) ow dp) → (∀ t, t < 2 → isCK tc ad F (49 + 2 * t)) → (∃ (cn : Nat) (fc fk : Nat → Int32), isTR tc ad F 53 cn fc fk) → (∃ fr fp fw fd : Nat → Int32, isBK tc ad F 56 fr fp fw fd) → (∃ fr fp fw fd : Nat → Int32, isBK tc ad F 61 fr fp fw fd) → va_D (Aw 66 ad) (wW 66 ad F) → va_P D vwCl (wW 66 ad F) H → va_S (Aw 66 ad) s.heap H locs → lv_has ls 2 [(1, .int (nI i)), (0, .ref (ad 0))] → W p l e (rmD 3) s m args below meth c H locs 0 0 (XQ below (CtQ D 66 ad (fun o E2 => o = .returned none ∧ RWf tc ad E2)) args s 0 0 (Aw 66 ad)) (F0 m 2 ls []) := by
    intro r
    induction r with
    | zero =>
      intro i  H locs ls F hi hR hPd hWd hPn hWn hL hV hT hB1 hB2 hD hP hS hl
      have hR0 := hR
      obtain ⟨rh0, ⟨ra1, rh1, rx1⟩, ⟨ra2, rh2, rx2⟩, ⟨ra3, rh3, rx3⟩, ⟨ra4, rh4, rx4⟩⟩ := hR
      refine lv_iload_n hx hb dRW_clear_2 rfl (lv_at hl 0 rfl) ?_
      refine lv_iconst (v := 5) hx hb dRW_clear_3 (by decide) ?_
      refine lv_icmp_ge (tgt := 31) hx hb dRW_clear_4 rfl (fun h4 => ?_) (fun h4 => absurd (nI_le (a := 5) (b := i) (by omega) (by omega)) h4)
      have hi5 : i = 5 := by omega
      subst hi5
      have loop2 : ∀ (r i : Nat)  (H : Heap) (locs : List Loc) (ls : Array Slot) (G : Nat → va_E), i + r = 3 → isRW tc ad G st cs → (∀ t, t < 5 → ∃ fo fa fb : Nat → Int32, isPG tc ad G (3 + 7 * t) 0 fo fa fb) → (∀ t, t < 5 → isWK tc ad G (7 + 7 * t) 0 0 0) → (∀ t, t < i → isLK tc ad G (39 + 3 * t) (-1) 0) → (∀ t, i ≤ t → t < 3 → ∃ ow dp : Int32, isLK tc ad G (39 + 3 * t) ow dp) → (∀ t, t < 2 → isCK tc ad G (49 + 2 * t)) → (∃ (cn : Nat) (fc fk : Nat → Int32), isTR tc ad G 53 cn fc fk) → (∃ fr fp fw fd : Nat → Int32, isBK tc ad G 56 fr fp fw fd) → (∃ fr fp fw fd : Nat → Int32, isBK tc ad G 61 fr fp fw fd) → va_D (Aw 66 ad) (wW 66 ad G) → va_P D vwCl (wW 66 ad G) H → va_S (Aw 66 ad) s.heap H locs → lv_has ls 2 [(1, .int (nI i)), (0, .ref (ad 0))] → W p l e (rmD 3) s m args below meth c H locs 0 0 (XQ below (CtQ D 66 ad (fun o E2 => o = .returned none ∧ RWf tc ad E2)) args s 0 0 (Aw 66 ad)) (F0 m 33 ls []) := by
        intro r
        induction r with
        | zero =>
          intro i  H locs ls G hi hR hP0 hW0 hL0 hL2 hV hT hB1 hB2 hD hP hS hl
          have hR0 := hR
          obtain ⟨rh0, ⟨ra1, rh1, rx1⟩, ⟨ra2, rh2, rx2⟩, ⟨ra3, rh3, rx3⟩, ⟨ra4, rh4, rx4⟩⟩ := hR
          refine lv_iload_n hx hb dRW_clear_33 rfl (lv_at hl 0 rfl) ?_
          refine lv_iconst (v := 3) hx hb dRW_clear_34 (by decide) ?_
          refine lv_icmp_ge (tgt := 53) hx hb dRW_clear_35 rfl (fun h35 => ?_) (fun h35 => absurd (nI_le (a := 3) (b := i) (by omega) (by omega)) h35)
          have hi3 : i = 3 := by omega
          subst hi3
          have loop3 : ∀ (r i : Nat)  (H : Heap) (locs : List Loc) (ls : Array Slot) (K : Nat → va_E), i + r = 2 → isRW tc ad K st cs → (∀ t, t < 5 → ∃ fo fa fb : Nat → Int32, isPG tc ad K (3 + 7 * t) 0 fo fa fb) → (∀ t, t < 5 → isWK tc ad K (7 + 7 * t) 0 0 0) → (∀ t, t < 3 → isLK tc ad K (39 + 3 * t) (-1) 0) → (∀ t, t < 2 → isCK tc ad K (49 + 2 * t)) → (∃ (cn : Nat) (fc fk : Nat → Int32), isTR tc ad K 53 cn fc fk) → (∃ fr fp fw fd : Nat → Int32, isBK tc ad K 56 fr fp fw fd) → (∃ fr fp fw fd : Nat → Int32, isBK tc ad K 61 fr fp fw fd) → va_D (Aw 66 ad) (wW 66 ad K) → va_P D vwCl (wW 66 ad K) H → va_S (Aw 66 ad) s.heap H locs → lv_has ls 2 [(1, .int (nI i)), (0, .ref (ad 0))] → W p l e (rmD 3) s m args below meth c H locs 0 0 (XQ below (CtQ D 66 ad (fun o E2 => o = .returned none ∧ RWf tc ad E2)) args s 0 0 (Aw 66 ad)) (F0 m 55 ls []) := by
            intro r
            induction r with
            | zero =>
              intro i  H locs ls K hi hR hP0 hW0 hL0 hV hT hB1 hB2 hD hP hS hl
              have hR0 := hR
              obtain ⟨rh0, ⟨ra1, rh1, rx1⟩, ⟨ra2, rh2, rx2⟩, ⟨ra3, rh3, rx3⟩, ⟨ra4, rh4, rx4⟩⟩ := hR
              refine lv_iload_n hx hb dRW_clear_55 rfl (lv_at hl 0 rfl) ?_
              refine lv_iconst (v := 2) hx hb dRW_clear_56 (by decide) ?_
              refine lv_icmp_ge (tgt := 75) hx hb dRW_clear_57 rfl (fun h57 => ?_) (fun h57 => absurd (nI_le (a := 2) (b := i) (by omega) (by omega)) h57)
              obtain ⟨cn, fc, fk, tt0, tt1, tt2⟩ := hT
              obtain ⟨br, bp, bw, bd, b0, b1, b2, b3, b4⟩ := hB1
              obtain ⟨cr, cp, cw, cd, c0, c1, c2, c3, c4⟩ := hB2
              refine lv_aload_n hx hb dRW_clear_75 rfl (lv_at hl 1 rfl) ?_
              refine g_RW_40 X hP (by omega) (rh0) rfl dRW_clear_76 ?_
              refine x_v (f := fun k => 53 + k) (x_runVN (C := R_TR) (As := []) (rest := []) X (c_TR_forget l D tc (fun k => ad (53 + k)) (fun k => K (53 + k)) cn fc fk (tt0) (tt1) (tt2)) rfl rfl (by decide) (by decide) w_198 w_6 w_195 w_197 sel_TR_forget ry_TR_forget (x_recv X hP (by omega) (tt0) rfl) (ct_pre X hP hD (fr_lt 3 66 53 (by omega)) (fr_inj 3 53)) ct_blind hl.1 (Nat.le_of_ble_eq_true rfl) dRW_clear_79 ⟨Nat.zero_le _, Nat.zero_le _⟩) hD hP hS (fr_lt 3 66 53 (by omega)) (fr_inj 3 53) (fun o E1 h => h.1) (fun E1 H locs q4 hD hP hS => ?_)
              obtain ⟨-, q40, q41, q42⟩ := q4
              generalize g2 : wU 3 (fun k => 53 + k) K E1 = E3 at hD hP
              have f5 : E3 0 = .inr (6, [.ref (ad 1), .ref (ad 2), .ref (ad 38), .ref (ad 48), .ref (ad 53), .ref (ad 56), .ref (ad 61), .int st, .int cs]) := by rw [← g2, wU_far (by omega)]; exact rh0
              have f6 : E3 1 = .inl (tc 3, 5, .inr (.inr (.inr (.inr ra1)))) := by rw [← g2, wU_far (by omega)]; exact rh1
              have f7 : E3 2 = .inl (tc 4, 5, .inr (.inr (.inr (.inr ra2)))) := by rw [← g2, wU_far (by omega)]; exact rh2
              have f8 : E3 38 = .inl (tc 5, 3, .inr (.inr (.inr (.inr ra3)))) := by rw [← g2, wU_far (by omega)]; exact rh3
              have f9 : E3 48 = .inl (tc 6, 2, .inr (.inr (.inr (.inr ra4)))) := by rw [← g2, wU_far (by omega)]; exact rh4
              have f10 : E3 56 = .inr (3, [.ref (ad 57), .ref (ad 58), .ref (ad 59), .ref (ad 60)]) := by rw [← g2, wU_far (by omega)]; exact b0
              have f11 : E3 57 = .inl (tc 0, 8, .inl br) := by rw [← g2, wU_far (by omega)]; exact b1
              have f12 : E3 58 = .inl (tc 0, 8, .inl bp) := by rw [← g2, wU_far (by omega)]; exact b2
              have f13 : E3 59 = .inl (tc 0, 8, .inl bw) := by rw [← g2, wU_far (by omega)]; exact b3
              have f14 : E3 60 = .inl (tc 0, 40, .inl bd) := by rw [← g2, wU_far (by omega)]; exact b4
              have f15 : E3 61 = .inr (3, [.ref (ad 62), .ref (ad 63), .ref (ad 64), .ref (ad 65)]) := by rw [← g2, wU_far (by omega)]; exact c0
              have f16 : E3 62 = .inl (tc 0, 8, .inl cr) := by rw [← g2, wU_far (by omega)]; exact c1
              have f17 : E3 63 = .inl (tc 0, 8, .inl cp) := by rw [← g2, wU_far (by omega)]; exact c2
              have f18 : E3 64 = .inl (tc 0, 8, .inl cw) := by rw [← g2, wU_far (by omega)]; exact c3
              have f19 : E3 65 = .inl (tc 0, 40, .inl cd) := by rw [← g2, wU_far (by omega)]; exact c4
              have f20 : E3 53 = .inr (4, [.ref (ad 54), .ref (ad 55), .int (nI 0)]) := by rw [← g2]; exact (wU_own 0 (by omega)).trans (q40)
              have f21 : E3 54 = .inl (tc 0, 200, .inl fc) := by rw [← g2]; exact (wU_own 1 (by omega)).trans (q41)
              have f22 : E3 55 = .inl (tc 0, 1000, .inl fk) := by rw [← g2]; exact (wU_own 2 (by omega)).trans (q42)
              refine lv_aload_n hx hb dRW_clear_82 rfl (lv_at hl 1 rfl) ?_
              refine g_RW_47 X hP (by omega) (f5) rfl dRW_clear_83 ?_
              refine x_v (f := fun k => 56 + k) (x_runVN (C := R_BK) (As := []) (rest := []) X (c_BK_forget l D tc (fun k => ad (56 + k)) (fun k => E3 (56 + k)) br bp bw bd (f10) (f11) (f12) (f13) (f14)) rfl rfl (by decide) (by decide) w_119 w_7 w_199 w_118 sel_BK_forget ry_BK_forget (x_recv X hP (by omega) (f10) rfl) (ct_pre X hP hD (fr_lt 5 66 56 (by omega)) (fr_inj 5 56)) ct_blind hl.1 (Nat.le_of_ble_eq_true rfl) dRW_clear_86 ⟨Nat.zero_le _, Nat.zero_le _⟩) hD hP hS (fr_lt 5 66 56 (by omega)) (fr_inj 5 56) (fun o E1 h => h.1) (fun E23 H locs q26 hD hP hS => ?_)
              obtain ⟨-, q26r, q26p, q26w, q26d, ⟨q260, q261, q262, q263, q264⟩, q26A, q26B, q26C, q26D⟩ := q26
              generalize g24 : wU 5 (fun k => 56 + k) E3 E23 = E25 at hD hP
              have f27 : E25 0 = .inr (6, [.ref (ad 1), .ref (ad 2), .ref (ad 38), .ref (ad 48), .ref (ad 53), .ref (ad 56), .ref (ad 61), .int st, .int cs]) := by rw [← g24, wU_far (by omega)]; exact f5
              have f28 : E25 1 = .inl (tc 3, 5, .inr (.inr (.inr (.inr ra1)))) := by rw [← g24, wU_far (by omega)]; exact f6
              have f29 : E25 2 = .inl (tc 4, 5, .inr (.inr (.inr (.inr ra2)))) := by rw [← g24, wU_far (by omega)]; exact f7
              have f30 : E25 38 = .inl (tc 5, 3, .inr (.inr (.inr (.inr ra3)))) := by rw [← g24, wU_far (by omega)]; exact f8
              have f31 : E25 48 = .inl (tc 6, 2, .inr (.inr (.inr (.inr ra4)))) := by rw [← g24, wU_far (by omega)]; exact f9
              have f32 : E25 61 = .inr (3, [.ref (ad 62), .ref (ad 63), .ref (ad 64), .ref (ad 65)]) := by rw [← g24, wU_far (by omega)]; exact f15
              have f33 : E25 62 = .inl (tc 0, 8, .inl cr) := by rw [← g24, wU_far (by omega)]; exact f16
              have f34 : E25 63 = .inl (tc 0, 8, .inl cp) := by rw [← g24, wU_far (by omega)]; exact f17
              have f35 : E25 64 = .inl (tc 0, 8, .inl cw) := by rw [← g24, wU_far (by omega)]; exact f18
              have f36 : E25 65 = .inl (tc 0, 40, .inl cd) := by rw [← g24, wU_far (by omega)]; exact f19
              have f37 : E25 53 = .inr (4, [.ref (ad 54), .ref (ad 55), .int (nI 0)]) := by rw [← g24, wU_far (by omega)]; exact f20
              have f38 : E25 54 = .inl (tc 0, 200, .inl fc) := by rw [← g24, wU_far (by omega)]; exact f21
              have f39 : E25 55 = .inl (tc 0, 1000, .inl fk) := by rw [← g24, wU_far (by omega)]; exact f22
              have f40 : E25 56 = .inr (3, [.ref (ad 57), .ref (ad 58), .ref (ad 59), .ref (ad 60)]) := by rw [← g24]; exact (wU_own 0 (by omega)).trans (q260)
              have f41 : E25 57 = .inl (tc 0, 8, .inl q26r) := by rw [← g24]; exact (wU_own 1 (by omega)).trans (q261)
              have f42 : E25 58 = .inl (tc 0, 8, .inl q26p) := by rw [← g24]; exact (wU_own 2 (by omega)).trans (q262)
              have f43 : E25 59 = .inl (tc 0, 8, .inl q26w) := by rw [← g24]; exact (wU_own 3 (by omega)).trans (q263)
              have f44 : E25 60 = .inl (tc 0, 40, .inl q26d) := by rw [← g24]; exact (wU_own 4 (by omega)).trans (q264)
              refine lv_aload_n hx hb dRW_clear_89 rfl (lv_at hl 1 rfl) ?_
              refine g_RW_51 X hP (by omega) (f27) rfl dRW_clear_90 ?_
              refine x_v (f := fun k => 61 + k) (x_runVN (C := R_BK) (As := []) (rest := []) X (c_BK_forget l D tc (fun k => ad (61 + k)) (fun k => E25 (61 + k)) cr cp cw cd (f32) (f33) (f34) (f35) (f36)) rfl rfl (by decide) (by decide) w_119 w_7 w_199 w_118 sel_BK_forget ry_BK_forget (x_recv X hP (by omega) (f32) rfl) (ct_pre X hP hD (fr_lt 5 66 61 (by omega)) (fr_inj 5 61)) ct_blind hl.1 (Nat.le_of_ble_eq_true rfl) dRW_clear_93 ⟨Nat.zero_le _, Nat.zero_le _⟩) hD hP hS (fr_lt 5 66 61 (by omega)) (fr_inj 5 61) (fun o E1 h => h.1) (fun E45 H locs q48 hD hP hS => ?_)
              obtain ⟨-, q48r, q48p, q48w, q48d, ⟨q480, q481, q482, q483, q484⟩, q48A, q48B, q48C, q48D⟩ := q48
              generalize g46 : wU 5 (fun k => 61 + k) E25 E45 = E47 at hD hP
              have f49 : E47 0 = .inr (6, [.ref (ad 1), .ref (ad 2), .ref (ad 38), .ref (ad 48), .ref (ad 53), .ref (ad 56), .ref (ad 61), .int st, .int cs]) := by rw [← g46, wU_far (by omega)]; exact f27
              have f50 : E47 1 = .inl (tc 3, 5, .inr (.inr (.inr (.inr ra1)))) := by rw [← g46, wU_far (by omega)]; exact f28
              have f51 : E47 2 = .inl (tc 4, 5, .inr (.inr (.inr (.inr ra2)))) := by rw [← g46, wU_far (by omega)]; exact f29
              have f52 : E47 38 = .inl (tc 5, 3, .inr (.inr (.inr (.inr ra3)))) := by rw [← g46, wU_far (by omega)]; exact f30
              have f53 : E47 48 = .inl (tc 6, 2, .inr (.inr (.inr (.inr ra4)))) := by rw [← g46, wU_far (by omega)]; exact f31
              have f54 : E47 53 = .inr (4, [.ref (ad 54), .ref (ad 55), .int (nI 0)]) := by rw [← g46, wU_far (by omega)]; exact f37
              have f55 : E47 54 = .inl (tc 0, 200, .inl fc) := by rw [← g46, wU_far (by omega)]; exact f38
              have f56 : E47 55 = .inl (tc 0, 1000, .inl fk) := by rw [← g46, wU_far (by omega)]; exact f39
              have f57 : E47 56 = .inr (3, [.ref (ad 57), .ref (ad 58), .ref (ad 59), .ref (ad 60)]) := by rw [← g46, wU_far (by omega)]; exact f40
              have f58 : E47 57 = .inl (tc 0, 8, .inl q26r) := by rw [← g46, wU_far (by omega)]; exact f41
              have f59 : E47 58 = .inl (tc 0, 8, .inl q26p) := by rw [← g46, wU_far (by omega)]; exact f42
              have f60 : E47 59 = .inl (tc 0, 8, .inl q26w) := by rw [← g46, wU_far (by omega)]; exact f43
              have f61 : E47 60 = .inl (tc 0, 40, .inl q26d) := by rw [← g46, wU_far (by omega)]; exact f44
              have f62 : E47 61 = .inr (3, [.ref (ad 62), .ref (ad 63), .ref (ad 64), .ref (ad 65)]) := by rw [← g46]; exact (wU_own 0 (by omega)).trans (q480)
              have f63 : E47 62 = .inl (tc 0, 8, .inl q48r) := by rw [← g46]; exact (wU_own 1 (by omega)).trans (q481)
              have f64 : E47 63 = .inl (tc 0, 8, .inl q48p) := by rw [← g46]; exact (wU_own 2 (by omega)).trans (q482)
              have f65 : E47 64 = .inl (tc 0, 8, .inl q48w) := by rw [← g46]; exact (wU_own 3 (by omega)).trans (q483)
              have f66 : E47 65 = .inl (tc 0, 40, .inl q48d) := by rw [← g46]; exact (wU_own 4 (by omega)).trans (q484)
              refine lv_aload_n hx hb dRW_clear_96 rfl (lv_at hl 1 rfl) ?_
              refine lv_iconst (v := 0) hx hb dRW_clear_97 (by decide) ?_
              refine p_RW_54 X hD hP hS (by omega) (f49) rfl rfl (Nat.le_of_ble_eq_true rfl) dRW_clear_98 (fun H locs hD hP hS => ?_)
              have hP : va_P D vwCl (wW 66 ad (va_up E47 0 (.inr (6, [.ref (ad 1), .ref (ad 2), .ref (ad 38), .ref (ad 48), .ref (ad 53), .ref (ad 56), .ref (ad 61), .int 0, .int cs])))) H := hP
              have hD : va_D (Aw 66 ad) (wW 66 ad (va_up E47 0 (.inr (6, [.ref (ad 1), .ref (ad 2), .ref (ad 38), .ref (ad 48), .ref (ad 53), .ref (ad 56), .ref (ad 61), .int 0, .int cs])))) := hD
              generalize g68 : va_up E47 0 (.inr (6, [.ref (ad 1), .ref (ad 2), .ref (ad 38), .ref (ad 48), .ref (ad 53), .ref (ad 56), .ref (ad 61), .int 0, .int cs])) = E67 at hD hP
              have f69 : E67 0 = .inr (6, [.ref (ad 1), .ref (ad 2), .ref (ad 38), .ref (ad 48), .ref (ad 53), .ref (ad 56), .ref (ad 61), .int 0, .int cs]) := by rw [← g68]; exact va_up_self _ _ _
              have f70 : E67 1 = .inl (tc 3, 5, .inr (.inr (.inr (.inr ra1)))) := by rw [← g68, va_up_ne _ _ (by omega)]; exact f50
              have f71 : E67 2 = .inl (tc 4, 5, .inr (.inr (.inr (.inr ra2)))) := by rw [← g68, va_up_ne _ _ (by omega)]; exact f51
              have f72 : E67 38 = .inl (tc 5, 3, .inr (.inr (.inr (.inr ra3)))) := by rw [← g68, va_up_ne _ _ (by omega)]; exact f52
              have f73 : E67 48 = .inl (tc 6, 2, .inr (.inr (.inr (.inr ra4)))) := by rw [← g68, va_up_ne _ _ (by omega)]; exact f53
              have f74 : E67 53 = .inr (4, [.ref (ad 54), .ref (ad 55), .int (nI 0)]) := by rw [← g68, va_up_ne _ _ (by omega)]; exact f54
              have f75 : E67 54 = .inl (tc 0, 200, .inl fc) := by rw [← g68, va_up_ne _ _ (by omega)]; exact f55
              have f76 : E67 55 = .inl (tc 0, 1000, .inl fk) := by rw [← g68, va_up_ne _ _ (by omega)]; exact f56
              have f77 : E67 56 = .inr (3, [.ref (ad 57), .ref (ad 58), .ref (ad 59), .ref (ad 60)]) := by rw [← g68, va_up_ne _ _ (by omega)]; exact f57
              have f78 : E67 57 = .inl (tc 0, 8, .inl q26r) := by rw [← g68, va_up_ne _ _ (by omega)]; exact f58
              have f79 : E67 58 = .inl (tc 0, 8, .inl q26p) := by rw [← g68, va_up_ne _ _ (by omega)]; exact f59
              have f80 : E67 59 = .inl (tc 0, 8, .inl q26w) := by rw [← g68, va_up_ne _ _ (by omega)]; exact f60
              have f81 : E67 60 = .inl (tc 0, 40, .inl q26d) := by rw [← g68, va_up_ne _ _ (by omega)]; exact f61
              have f82 : E67 61 = .inr (3, [.ref (ad 62), .ref (ad 63), .ref (ad 64), .ref (ad 65)]) := by rw [← g68, va_up_ne _ _ (by omega)]; exact f62
              have f83 : E67 62 = .inl (tc 0, 8, .inl q48r) := by rw [← g68, va_up_ne _ _ (by omega)]; exact f63
              have f84 : E67 63 = .inl (tc 0, 8, .inl q48p) := by rw [← g68, va_up_ne _ _ (by omega)]; exact f64
              have f85 : E67 64 = .inl (tc 0, 8, .inl q48w) := by rw [← g68, va_up_ne _ _ (by omega)]; exact f65
              have f86 : E67 65 = .inl (tc 0, 40, .inl q48d) := by rw [← g68, va_up_ne _ _ (by omega)]; exact f66
              refine lv_aload_n hx hb dRW_clear_101 rfl (lv_at hl 1 rfl) ?_
              refine lv_iconst (v := 0) hx hb dRW_clear_102 (by decide) ?_
              refine p_RW_58 X hD hP hS (by omega) (f69) rfl rfl (Nat.le_of_ble_eq_true rfl) dRW_clear_103 (fun H locs hD hP hS => ?_)
              have hP : va_P D vwCl (wW 66 ad (va_up E67 0 (.inr (6, [.ref (ad 1), .ref (ad 2), .ref (ad 38), .ref (ad 48), .ref (ad 53), .ref (ad 56), .ref (ad 61), .int 0, .int 0])))) H := hP
              have hD : va_D (Aw 66 ad) (wW 66 ad (va_up E67 0 (.inr (6, [.ref (ad 1), .ref (ad 2), .ref (ad 38), .ref (ad 48), .ref (ad 53), .ref (ad 56), .ref (ad 61), .int 0, .int 0])))) := hD
              generalize g88 : va_up E67 0 (.inr (6, [.ref (ad 1), .ref (ad 2), .ref (ad 38), .ref (ad 48), .ref (ad 53), .ref (ad 56), .ref (ad 61), .int 0, .int 0])) = E87 at hD hP
              have f89 : E87 0 = .inr (6, [.ref (ad 1), .ref (ad 2), .ref (ad 38), .ref (ad 48), .ref (ad 53), .ref (ad 56), .ref (ad 61), .int 0, .int 0]) := by rw [← g88]; exact va_up_self _ _ _
              have f90 : E87 1 = .inl (tc 3, 5, .inr (.inr (.inr (.inr ra1)))) := by rw [← g88, va_up_ne _ _ (by omega)]; exact f70
              have f91 : E87 2 = .inl (tc 4, 5, .inr (.inr (.inr (.inr ra2)))) := by rw [← g88, va_up_ne _ _ (by omega)]; exact f71
              have f92 : E87 38 = .inl (tc 5, 3, .inr (.inr (.inr (.inr ra3)))) := by rw [← g88, va_up_ne _ _ (by omega)]; exact f72
              have f93 : E87 48 = .inl (tc 6, 2, .inr (.inr (.inr (.inr ra4)))) := by rw [← g88, va_up_ne _ _ (by omega)]; exact f73
              have f94 : E87 53 = .inr (4, [.ref (ad 54), .ref (ad 55), .int (nI 0)]) := by rw [← g88, va_up_ne _ _ (by omega)]; exact f74
              have f95 : E87 54 = .inl (tc 0, 200, .inl fc) := by rw [← g88, va_up_ne _ _ (by omega)]; exact f75
              have f96 : E87 55 = .inl (tc 0, 1000, .inl fk) := by rw [← g88, va_up_ne _ _ (by omega)]; exact f76
              have f97 : E87 56 = .inr (3, [.ref (ad 57), .ref (ad 58), .ref (ad 59), .ref (ad 60)]) := by rw [← g88, va_up_ne _ _ (by omega)]; exact f77
              have f98 : E87 57 = .inl (tc 0, 8, .inl q26r) := by rw [← g88, va_up_ne _ _ (by omega)]; exact f78
              have f99 : E87 58 = .inl (tc 0, 8, .inl q26p) := by rw [← g88, va_up_ne _ _ (by omega)]; exact f79
              have f100 : E87 59 = .inl (tc 0, 8, .inl q26w) := by rw [← g88, va_up_ne _ _ (by omega)]; exact f80
              have f101 : E87 60 = .inl (tc 0, 40, .inl q26d) := by rw [← g88, va_up_ne _ _ (by omega)]; exact f81
              have f102 : E87 61 = .inr (3, [.ref (ad 62), .ref (ad 63), .ref (ad 64), .ref (ad 65)]) := by rw [← g88, va_up_ne _ _ (by omega)]; exact f82
              have f103 : E87 62 = .inl (tc 0, 8, .inl q48r) := by rw [← g88, va_up_ne _ _ (by omega)]; exact f83
              have f104 : E87 63 = .inl (tc 0, 8, .inl q48p) := by rw [← g88, va_up_ne _ _ (by omega)]; exact f84
              have f105 : E87 64 = .inl (tc 0, 8, .inl q48w) := by rw [← g88, va_up_ne _ _ (by omega)]; exact f85
              have f106 : E87 65 = .inl (tc 0, 40, .inl q48d) := by rw [← g88, va_up_ne _ _ (by omega)]; exact f86
              have far : ∀ k, 0 < k → k < 53 → E87 k = K k := fun k h1 h2 => by rw [← g88, va_up_ne _ _ (by omega), ← g68, va_up_ne _ _ (by omega), ← g46, wU_far (by omega), ← g24, wU_far (by omega), ← g2, wU_far (by omega)]
              exact q_vret X hlk hr hP hS dRW_clear_106 ⟨rfl, ⟨f89, ⟨_, f90, rx1⟩, ⟨_, f91, rx2⟩, ⟨_, f92, rx3⟩, ⟨_, f93, rx4⟩⟩, (fun t ht => by obtain ⟨a, b, c, h⟩ := hP0 t ht; exact ⟨a, b, c, h.cong (fun k q1 q2 => far k (by omega) (by omega))⟩), (fun t ht => (hW0 t ht).cong (fun k q1 q2 => far k (by omega) (by omega))), (fun t ht => (hL0 t ht).cong (fun k q1 q2 => far k (by omega) (by omega))), (fun t ht => (hV t ht).cong (fun k q1 q2 => far k (by omega) (by omega))), ⟨_, _, f94, f95, f96⟩, ⟨_, _, _, _, ⟨f97, f98, f99, f100, f101⟩, q26A, q26B, q26C, q26D⟩, ⟨_, _, _, _, ⟨f102, f103, f104, f105, f106⟩, q48A, q48B, q48C, q48D⟩⟩
            | succ r ih =>
              intro i  H locs ls K hi hR hP0 hW0 hL0 hV hT hB1 hB2 hD hP hS hl
              have hR0 := hR
              obtain ⟨rh0, ⟨ra1, rh1, rx1⟩, ⟨ra2, rh2, rx2⟩, ⟨ra3, rh3, rx3⟩, ⟨ra4, rh4, rx4⟩⟩ := hR
              refine lv_iload_n hx hb dRW_clear_55 rfl (lv_at hl 0 rfl) ?_
              refine lv_iconst (v := 2) hx hb dRW_clear_56 (by decide) ?_
              refine lv_icmp_ge (tgt := 75) hx hb dRW_clear_57 rfl (fun h57 => absurd h57 (nI_ge (a := i) (b := 2) (by omega) (by omega))) (fun h57 => ?_)
              obtain ⟨v0, vf, v1⟩ := hV i (by omega)
              refine lv_aload_n hx hb dRW_clear_60 rfl (lv_at hl 1 rfl) ?_
              refine g_RW_32 X hP (by omega) (rh0) rfl dRW_clear_61 ?_
              refine lv_iload_n hx hb dRW_clear_64 rfl (lv_at hl 0 rfl) ?_
              refine q_aald (t0 := 6) i X hP (by omega) (rh4) rfl (rfl) (by omega) (by decide) (rx4 i (by omega)) dRW_clear_65 ?_
              refine x_v (f := fun k => (49 + 2 * i) + k) (x_runVN (C := R_CK) (As := []) (rest := []) X (c_CK_forget l D tc (fun k => ad (49 + 2 * i + k)) (fun k => K (49 + 2 * i + k)) vf v0 v1) rfl rfl (by decide) (by decide) w_187 w_4 w_194 w_186 sel_CK_forget ry_CK_forget (x_recv X hP (by omega) (v0) rfl) (ct_pre X hP hD (fr_lt 2 66 (49 + 2 * i) (by omega)) (fr_inj 2 (49 + 2 * i))) ct_blind hl.1 (Nat.le_of_ble_eq_true rfl) dRW_clear_66 ⟨Nat.zero_le _, Nat.zero_le _⟩) hD hP hS (fr_lt 2 66 (49 + 2 * i) (by omega)) (fr_inj 2 (49 + 2 * i)) (fun o E1 h => h.1) (fun E107 H locs q110 hD hP hS => ?_)
              obtain ⟨-, q1100, q110f, q1101, -⟩ := q110
              generalize g108 : wU 2 (fun k => (49 + 2 * i) + k) K E107 = E109 at hD hP
              have f111 : E109 0 = .inr (6, [.ref (ad 1), .ref (ad 2), .ref (ad 38), .ref (ad 48), .ref (ad 53), .ref (ad 56), .ref (ad 61), .int st, .int cs]) := by rw [← g108, wU_far (by omega)]; exact rh0
              have f112 : E109 1 = .inl (tc 3, 5, .inr (.inr (.inr (.inr ra1)))) := by rw [← g108, wU_far (by omega)]; exact rh1
              have f113 : E109 2 = .inl (tc 4, 5, .inr (.inr (.inr (.inr ra2)))) := by rw [← g108, wU_far (by omega)]; exact rh2
              have f114 : E109 38 = .inl (tc 5, 3, .inr (.inr (.inr (.inr ra3)))) := by rw [← g108, wU_far (by omega)]; exact rh3
              have f115 : E109 48 = .inl (tc 6, 2, .inr (.inr (.inr (.inr ra4)))) := by rw [← g108, wU_far (by omega)]; exact rh4
              have f116 : E109 (49 + 2 * i) = .inr (0, [.ref (ad (49 + 2 * i + 1))]) := by rw [← g108]; exact (wU_own 0 (by omega)).trans (q1100)
              have f117 : E109 (49 + 2 * i + 1) = .inl (tc 0, 5, .inl q110f) := by rw [← g108]; exact (wU_own 1 (by omega)).trans (q1101)
              refine lv_iinc (k := 0) (v := nI (i + 1)) hx hb dRW_clear_69 hl rfl (nI_1 i) (by decide) rfl (fun ls hl => ?_)
              have hl : lv_has ls 2 [(1, .int (nI (i + 1))), (0, .ref (ad 0))] := hl
              refine lv_goto (tgt := 55) hx hb dRW_clear_72 rfl ?_
              have far : ∀ k, k < 49 + 2 * i ∨ 51 + 2 * i ≤ k → E109 k = K k := fun k hk => by rw [← g108, wU_far (by omega)]
              have nck : isCK tc ad E109 (49 + 2 * i) := ⟨f116, _, f117⟩
              exact ih (i + 1) _ _ _ _ (by omega) (hR0.cong (far 0 (by omega)) (far 1 (by omega)) (far 2 (by omega)) (far 38 (by omega)) (far 48 (by omega))) (fun t ht => by obtain ⟨a, b, c, h⟩ := hP0 t ht; exact ⟨a, b, c, h.cong (fun k q1 q2 => far k (by omega))⟩) (fun t ht => (hW0 t ht).cong (fun k q1 q2 => far k (by omega))) (fun t h9 => (hL0 t h9).cong (fun k q1 q2 => far k (by omega))) (fun t ht => by by_cases h : t = i; (· subst h; exact nck); (· exact (hV t ht).cong (fun k q1 q2 => far k (by omega)))) (by obtain ⟨cn, fc, fk, h⟩ := hT; exact ⟨cn, fc, fk, h.cong (fun k q1 q2 => far k (by omega))⟩) (by obtain ⟨a, b, c, d, h⟩ := hB1; exact ⟨a, b, c, d, h.cong (fun k q1 q2 => far k (by omega))⟩) (by obtain ⟨a, b, c, d, h⟩ := hB2; exact ⟨a, b, c, d, h.cong (fun k q1 q2 => far k (by omega))⟩) hD hP hS hl
          refine lv_iconst (v := 0) hx hb dRW_clear_53 (by decide) ?_
          refine lv_istore_n hx hb dRW_clear_54 rfl hl (by decide) rfl (fun ls hl => ?_)
          have hl : lv_has ls 2 [(1, .int 0), (0, .ref (ad 0))] := hl
          exact loop3 2 0 _ _ _ _ (by omega) hR0 hP0 hW0 (fun t h => hL0 t h) hV hT hB1 hB2 hD hP hS hl
        | succ r ih =>
          intro i  H locs ls G hi hR hP0 hW0 hL0 hL2 hV hT hB1 hB2 hD hP hS hl
          have hR0 := hR
          obtain ⟨rh0, ⟨ra1, rh1, rx1⟩, ⟨ra2, rh2, rx2⟩, ⟨ra3, rh3, rx3⟩, ⟨ra4, rh4, rx4⟩⟩ := hR
          refine lv_iload_n hx hb dRW_clear_33 rfl (lv_at hl 0 rfl) ?_
          refine lv_iconst (v := 3) hx hb dRW_clear_34 (by decide) ?_
          refine lv_icmp_ge (tgt := 53) hx hb dRW_clear_35 rfl (fun h35 => absurd h35 (nI_ge (a := i) (b := 3) (by omega) (by omega))) (fun h35 => ?_)
          obtain ⟨ow, dp, k0, k1, lf, k2⟩ := hL2 i (Nat.le_refl i) (by omega)
          refine lv_aload_n hx hb dRW_clear_38 rfl (lv_at hl 1 rfl) ?_
          refine g_RW_25 X hP (by omega) (rh0) rfl dRW_clear_39 ?_
          refine lv_iload_n hx hb dRW_clear_42 rfl (lv_at hl 0 rfl) ?_
          refine q_aald (t0 := 5) i X hP (by omega) (rh3) rfl (rfl) (by omega) (by decide) (rx3 i (by omega)) dRW_clear_43 ?_
          refine x_v (f := fun k => (39 + 3 * i) + k) (x_runVN (C := R_LK) (As := []) (rest := []) X (c_LK_forget l D tc (fun k => ad (39 + 3 * i + k)) (fun k => G (39 + 3 * i + k)) ow dp lf k0 k1 k2) rfl rfl (by decide) (by decide) w_192 w_5 w_189 w_191 sel_LK_forget ry_LK_forget (x_recv X hP (by omega) (k0) rfl) (ct_pre X hP hD (fr_lt 3 66 (39 + 3 * i) (by omega)) (fr_inj 3 (39 + 3 * i))) ct_blind hl.1 (Nat.le_of_ble_eq_true rfl) dRW_clear_44 ⟨Nat.zero_le _, Nat.zero_le _⟩) hD hP hS (fr_lt 3 66 (39 + 3 * i) (by omega)) (fr_inj 3 (39 + 3 * i)) (fun o E1 h => h.1) (fun E118 H locs q121 hD hP hS => ?_)
          obtain ⟨-, q1210, q1211, q121f, q1212⟩ := q121
          generalize g119 : wU 3 (fun k => (39 + 3 * i) + k) G E118 = E120 at hD hP
          have f122 : E120 0 = .inr (6, [.ref (ad 1), .ref (ad 2), .ref (ad 38), .ref (ad 48), .ref (ad 53), .ref (ad 56), .ref (ad 61), .int st, .int cs]) := by rw [← g119, wU_far (by omega)]; exact rh0
          have f123 : E120 1 = .inl (tc 3, 5, .inr (.inr (.inr (.inr ra1)))) := by rw [← g119, wU_far (by omega)]; exact rh1
          have f124 : E120 2 = .inl (tc 4, 5, .inr (.inr (.inr (.inr ra2)))) := by rw [← g119, wU_far (by omega)]; exact rh2
          have f125 : E120 38 = .inl (tc 5, 3, .inr (.inr (.inr (.inr ra3)))) := by rw [← g119, wU_far (by omega)]; exact rh3
          have f126 : E120 48 = .inl (tc 6, 2, .inr (.inr (.inr (.inr ra4)))) := by rw [← g119, wU_far (by omega)]; exact rh4
          have f127 : E120 (39 + 3 * i) = .inr (1, [.ref (ad (39 + 3 * i + 1)), .int (-1), .int 0]) := by rw [← g119]; exact (wU_own 0 (by omega)).trans (q1210)
          have f128 : E120 (39 + 3 * i + 1) = .inr (0, [.ref (ad (39 + 3 * i + 1 + 1))]) := by rw [← g119]; exact (wU_own 1 (by omega)).trans (q1211)
          have f129 : E120 (39 + 3 * i + 1 + 1) = .inl (tc 0, 5, .inl q121f) := by rw [← g119]; exact (wU_own 2 (by omega)).trans (q1212)
          refine lv_iinc (k := 0) (v := nI (i + 1)) hx hb dRW_clear_47 hl rfl (nI_1 i) (by decide) rfl (fun ls hl => ?_)
          have hl : lv_has ls 2 [(1, .int (nI (i + 1))), (0, .ref (ad 0))] := hl
          refine lv_goto (tgt := 33) hx hb dRW_clear_50 rfl ?_
          have far : ∀ k, k < 39 + 3 * i ∨ 42 + 3 * i ≤ k → E120 k = G k := fun k hk => by rw [← g119, wU_far (by omega)]
          have nlk : isLK tc ad E120 (39 + 3 * i) (-1) 0 := ⟨f127, f128, _, f129⟩
          exact ih (i + 1) _ _ _ _ (by omega) (hR0.cong (far 0 (by omega)) (far 1 (by omega)) (far 2 (by omega)) (far 38 (by omega)) (far 48 (by omega))) (fun t ht => by obtain ⟨a, b, c, h⟩ := hP0 t ht; exact ⟨a, b, c, h.cong (fun k q1 q2 => far k (by omega))⟩) (fun t ht => (hW0 t ht).cong (fun k q1 q2 => far k (by omega))) (fun t ht => by by_cases h : t = i; (· subst h; exact nlk); (· exact (hL0 t (by omega)).cong (fun k q1 q2 => far k (by omega)))) (fun t h8 h9 => by obtain ⟨ow, dp, h⟩ := hL2 t (by omega) h9; exact ⟨ow, dp, h.cong (fun k q1 q2 => far k (by omega))⟩) (fun t ht => (hV t ht).cong (fun k q1 q2 => far k (by omega))) (by obtain ⟨cn, fc, fk, h⟩ := hT; exact ⟨cn, fc, fk, h.cong (fun k q1 q2 => far k (by omega))⟩) (by obtain ⟨a, b, c, d, h⟩ := hB1; exact ⟨a, b, c, d, h.cong (fun k q1 q2 => far k (by omega))⟩) (by obtain ⟨a, b, c, d, h⟩ := hB2; exact ⟨a, b, c, d, h.cong (fun k q1 q2 => far k (by omega))⟩) hD hP hS hl
      refine lv_iconst (v := 0) hx hb dRW_clear_31 (by decide) ?_
      refine lv_istore_n hx hb dRW_clear_32 rfl hl (by decide) rfl (fun ls hl => ?_)
      have hl : lv_has ls 2 [(1, .int 0), (0, .ref (ad 0))] := hl
      exact loop2 3 0 _ _ _ _ (by omega) hR0 (fun t h => hPd t h) (fun t h => hWd t h) (fun t h => absurd h (Nat.not_lt_zero t)) (fun t _ h => hL t h) hV hT hB1 hB2 hD hP hS hl
    | succ r ih =>
      intro i  H locs ls F hi hR hPd hWd hPn hWn hL hV hT hB1 hB2 hD hP hS hl
      have hR0 := hR
      obtain ⟨rh0, ⟨ra1, rh1, rx1⟩, ⟨ra2, rh2, rx2⟩, ⟨ra3, rh3, rx3⟩, ⟨ra4, rh4, rx4⟩⟩ := hR
      refine lv_iload_n hx hb dRW_clear_2 rfl (lv_at hl 0 rfl) ?_
      refine lv_iconst (v := 5) hx hb dRW_clear_3 (by decide) ?_
      refine lv_icmp_ge (tgt := 31) hx hb dRW_clear_4 rfl (fun h4 => absurd h4 (nI_ge (a := i) (b := 5) (by omega) (by omega))) (fun h4 => ?_)
      obtain ⟨psz, pfo, pfa, pfb, p0, p1, p2, p3⟩ := hPn i (Nat.le_refl i) (by omega)
      obtain ⟨ph, nx, rg, k0, k1, wf, k2⟩ := hWn i (Nat.le_refl i) (by omega)
      refine lv_aload_n hx hb dRW_clear_7 rfl (lv_at hl 1 rfl) ?_
      refine g_RW_11 X hP (by omega) (rh0) rfl dRW_clear_8 ?_
      refine lv_iload_n hx hb dRW_clear_11 rfl (lv_at hl 0 rfl) ?_
      refine q_aald (t0 := 3) i X hP (by omega) (rh1) rfl (rfl) (by omega) (by decide) (rx1 i (by omega)) dRW_clear_12 ?_
      refine x_v (f := fun k => (3 + 7 * i) + k) (x_runVN (C := R_PG) (As := []) (rest := []) X (c_PG_forget l D tc (fun k => ad (3 + 7 * i + k)) (fun k => F (3 + 7 * i + k)) psz pfo pfa pfb p0 p1 p2 p3) rfl rfl (by decide) (by decide) w_179 w_2 w_176 w_178 sel_PG_forget ry_PG_forget (x_recv X hP (by omega) (p0) rfl) (ct_pre X hP hD (fr_lt 4 66 (3 + 7 * i) (by omega)) (fr_inj 4 (3 + 7 * i))) ct_blind hl.1 (Nat.le_of_ble_eq_true rfl) dRW_clear_13 ⟨Nat.zero_le _, Nat.zero_le _⟩) hD hP hS (fr_lt 4 66 (3 + 7 * i) (by omega)) (fr_inj 4 (3 + 7 * i)) (fun o E1 h => h.1) (fun E130 H locs q133 hD hP hS => ?_)
      obtain ⟨-, q1330, q1331, q1332, q1333⟩ := q133
      generalize g131 : wU 4 (fun k => (3 + 7 * i) + k) F E130 = E132 at hD hP
      have f134 : E132 0 = .inr (6, [.ref (ad 1), .ref (ad 2), .ref (ad 38), .ref (ad 48), .ref (ad 53), .ref (ad 56), .ref (ad 61), .int st, .int cs]) := by rw [← g131, wU_far (by omega)]; exact rh0
      have f135 : E132 1 = .inl (tc 3, 5, .inr (.inr (.inr (.inr ra1)))) := by rw [← g131, wU_far (by omega)]; exact rh1
      have f136 : E132 2 = .inl (tc 4, 5, .inr (.inr (.inr (.inr ra2)))) := by rw [← g131, wU_far (by omega)]; exact rh2
      have f137 : E132 38 = .inl (tc 5, 3, .inr (.inr (.inr (.inr ra3)))) := by rw [← g131, wU_far (by omega)]; exact rh3
      have f138 : E132 48 = .inl (tc 6, 2, .inr (.inr (.inr (.inr ra4)))) := by rw [← g131, wU_far (by omega)]; exact rh4
      have f139 : E132 (7 + 7 * i) = .inr (5, [.ref (ad (7 + 7 * i + 1)), .int ph, .int nx, .long rg]) := by rw [← g131, wU_far (by omega)]; exact k0
      have f140 : E132 (7 + 7 * i + 1) = .inr (0, [.ref (ad (7 + 7 * i + 1 + 1))]) := by rw [← g131, wU_far (by omega)]; exact k1
      have f141 : E132 (7 + 7 * i + 1 + 1) = .inl (tc 0, 5, .inl wf) := by rw [← g131, wU_far (by omega)]; exact k2
      have f142 : E132 (3 + 7 * i) = .inr (2, [.ref (ad (3 + 7 * i + 1)), .ref (ad (3 + 7 * i + 2)), .ref (ad (3 + 7 * i + 3)), .int (nI 0)]) := by rw [← g131]; exact (wU_own 0 (by omega)).trans (q1330)
      have f143 : E132 (3 + 7 * i + 1) = .inl (tc 0, 12, .inl pfo) := by rw [← g131]; exact (wU_own 1 (by omega)).trans (q1331)
      have f144 : E132 (3 + 7 * i + 2) = .inl (tc 0, 12, .inl pfa) := by rw [← g131]; exact (wU_own 2 (by omega)).trans (q1332)
      have f145 : E132 (3 + 7 * i + 3) = .inl (tc 0, 12, .inl pfb) := by rw [← g131]; exact (wU_own 3 (by omega)).trans (q1333)
      refine lv_aload_n hx hb dRW_clear_16 rfl (lv_at hl 1 rfl) ?_
      refine g_RW_17 X hP (by omega) (f134) rfl dRW_clear_17 ?_
      refine lv_iload_n hx hb dRW_clear_20 rfl (lv_at hl 0 rfl) ?_
      refine q_aald (t0 := 4) i X hP (by omega) (f136) rfl (rfl) (by omega) (by decide) (rx2 i (by omega)) dRW_clear_21 ?_
      refine x_v (f := fun k => (7 + 7 * i) + k) (x_runVN (C := R_WK) (As := []) (rest := []) X (c_WK_forget l D tc (fun k => ad (7 + 7 * i + k)) (fun k => E132 (7 + 7 * i + k)) ph nx rg wf (f139) (f140) (f141)) rfl rfl (by decide) (by decide) w_183 w_3 w_180 w_182 sel_WK_forget ry_WK_forget (x_recv X hP (by omega) (f139) rfl) (ct_pre X hP hD (fr_lt 3 66 (7 + 7 * i) (by omega)) (fr_inj 3 (7 + 7 * i))) ct_blind hl.1 (Nat.le_of_ble_eq_true rfl) dRW_clear_22 ⟨Nat.zero_le _, Nat.zero_le _⟩) hD hP hS (fr_lt 3 66 (7 + 7 * i) (by omega)) (fr_inj 3 (7 + 7 * i)) (fun o E1 h => h.1) (fun E146 H locs q149 hD hP hS => ?_)
      obtain ⟨-, q1490, q1491, q149f, q1492⟩ := q149
      generalize g147 : wU 3 (fun k => (7 + 7 * i) + k) E132 E146 = E148 at hD hP
      have f150 : E148 0 = .inr (6, [.ref (ad 1), .ref (ad 2), .ref (ad 38), .ref (ad 48), .ref (ad 53), .ref (ad 56), .ref (ad 61), .int st, .int cs]) := by rw [← g147, wU_far (by omega)]; exact f134
      have f151 : E148 1 = .inl (tc 3, 5, .inr (.inr (.inr (.inr ra1)))) := by rw [← g147, wU_far (by omega)]; exact f135
      have f152 : E148 2 = .inl (tc 4, 5, .inr (.inr (.inr (.inr ra2)))) := by rw [← g147, wU_far (by omega)]; exact f136
      have f153 : E148 38 = .inl (tc 5, 3, .inr (.inr (.inr (.inr ra3)))) := by rw [← g147, wU_far (by omega)]; exact f137
      have f154 : E148 48 = .inl (tc 6, 2, .inr (.inr (.inr (.inr ra4)))) := by rw [← g147, wU_far (by omega)]; exact f138
      have f155 : E148 (3 + 7 * i) = .inr (2, [.ref (ad (3 + 7 * i + 1)), .ref (ad (3 + 7 * i + 2)), .ref (ad (3 + 7 * i + 3)), .int (nI 0)]) := by rw [← g147, wU_far (by omega)]; exact f142
      have f156 : E148 (3 + 7 * i + 1) = .inl (tc 0, 12, .inl pfo) := by rw [← g147, wU_far (by omega)]; exact f143
      have f157 : E148 (3 + 7 * i + 2) = .inl (tc 0, 12, .inl pfa) := by rw [← g147, wU_far (by omega)]; exact f144
      have f158 : E148 (3 + 7 * i + 3) = .inl (tc 0, 12, .inl pfb) := by rw [← g147, wU_far (by omega)]; exact f145
      have f159 : E148 (7 + 7 * i) = .inr (5, [.ref (ad (7 + 7 * i + 1)), .int 0, .int 0, .long 0]) := by rw [← g147]; exact (wU_own 0 (by omega)).trans (q1490)
      have f160 : E148 (7 + 7 * i + 1) = .inr (0, [.ref (ad (7 + 7 * i + 1 + 1))]) := by rw [← g147]; exact (wU_own 1 (by omega)).trans (q1491)
      have f161 : E148 (7 + 7 * i + 1 + 1) = .inl (tc 0, 5, .inl q149f) := by rw [← g147]; exact (wU_own 2 (by omega)).trans (q1492)
      refine lv_iinc (k := 0) (v := nI (i + 1)) hx hb dRW_clear_25 hl rfl (nI_1 i) (by decide) rfl (fun ls hl => ?_)
      have hl : lv_has ls 2 [(1, .int (nI (i + 1))), (0, .ref (ad 0))] := hl
      refine lv_goto (tgt := 2) hx hb dRW_clear_28 rfl ?_
      have far : ∀ k, k < 3 + 7 * i ∨ 10 + 7 * i ≤ k → E148 k = F k := fun k hk => by rw [← g147, wU_far (by omega), ← g131, wU_far (by omega)]
      have npg : isPG tc ad E148 (3 + 7 * i) 0 pfo pfa pfb := ⟨f155, f156, f157, f158⟩
      have nwk : isWK tc ad E148 (7 + 7 * i) 0 0 0 := ⟨f159, f160, _, f161⟩
      exact ih (i + 1) _ _ _ _ (by omega) (hR0.cong (far 0 (by omega)) (far 1 (by omega)) (far 2 (by omega)) (far 38 (by omega)) (far 48 (by omega))) (fun t ht => by by_cases h : t = i; (· subst h; exact ⟨_, _, _, npg⟩); (· obtain ⟨a, b, c, h'⟩ := hPd t (by omega); exact ⟨a, b, c, h'.cong (fun k q1 q2 => far k (by omega))⟩)) (fun t ht => by by_cases h : t = i; (· subst h; exact nwk); (· exact (hWd t (by omega)).cong (fun k q1 q2 => far k (by omega)))) (fun t h1 h2 => by obtain ⟨z, a, b, c, h'⟩ := hPn t (by omega) h2; exact ⟨z, a, b, c, h'.cong (fun k q1 q2 => far k (by omega))⟩) (fun t h1 h2 => by obtain ⟨a, b, c, h'⟩ := hWn t (by omega) h2; exact ⟨a, b, c, h'.cong (fun k q1 q2 => far k (by omega))⟩) (fun t ht => by obtain ⟨ow, dp, h⟩ := hL t ht; exact ⟨ow, dp, h.cong (fun k q1 q2 => far k (by omega))⟩) (fun t ht => (hV t ht).cong (fun k q1 q2 => far k (by omega))) (by obtain ⟨cn, fc, fk, h⟩ := hT; exact ⟨cn, fc, fk, h.cong (fun k q1 q2 => far k (by omega))⟩) (by obtain ⟨a, b, c, d, h⟩ := hB1; exact ⟨a, b, c, d, h.cong (fun k q1 q2 => far k (by omega))⟩) (by obtain ⟨a, b, c, d, h⟩ := hB2; exact ⟨a, b, c, d, h.cong (fun k q1 q2 => far k (by omega))⟩) hD hP hS hl
  exact loop1 5 0 _ _ _ _ (by omega) hR (fun t h => absurd h (Nat.not_lt_zero t)) (fun t h => absurd h (Nat.not_lt_zero t)) (fun t _ h => hX1 t h) (fun t _ h => hX2 t h) hX3 hX4 hX5 hX6 hX7 hD hP hS hl
end
section
/-! THE REFERENCE'S CELLS: the object, its sixteen arrays -/
def isMD (tc : Nat → ClassId) (ad : Nat → Nat) (F : Nat → va_E) (th st ic cn : Int32) (A : Nat → Nat → Int32) (J : Nat → Int64) : Prop :=
  F 0 = .inr (7, [.int th, .int st, .int ic, .ref (ad 1), .ref (ad 2), .ref (ad 3), .ref (ad 4), .ref (ad 5), .ref (ad 6), .ref (ad 7), .ref (ad 8), .ref (ad 9), .int cn, .ref (ad 10), .ref (ad 11), .ref (ad 12), .ref (ad 13), .ref (ad 14), .ref (ad 15), .ref (ad 16)]) ∧
  F 1 = .inl (tc 0, 5, .inl (A 1)) ∧ F 2 = .inl (tc 0, 60, .inl (A 2)) ∧ F 3 = .inl (tc 0, 60, .inl (A 3)) ∧ F 4 = .inl (tc 0, 60, .inl (A 4)) ∧ F 5 = .inl (tc 0, 5, .inl (A 5)) ∧ F 6 = .inl (tc 0, 5, .inl (A 6)) ∧ F 7 = .inl (tc 0, 5, .inl (A 7)) ∧
  F 8 = .inl (tc 0, 3, .inl (A 8)) ∧ F 9 = .inl (tc 0, 3, .inl (A 9)) ∧ F 10 = .inl (tc 0, 200, .inl (A 10)) ∧ F 11 = .inl (tc 0, 200, .inl (A 11)) ∧ F 12 = .inl (tc 0, 200, .inl (A 12)) ∧ F 13 = .inl (tc 2, 200, .inl (A 13)) ∧ F 14 = .inl (tc 1, 800, .inr (.inl J)) ∧ F 15 = .inl (tc 0, 8, .inl (A 15)) ∧ F 16 = .inl (tc 0, 8, .inl (A 16))
/-- the reference, new or cleared -/
def MDf (tc : Nat → ClassId) (ad : Nat → Nat) (F : Nat → va_E) (th : Int32) : Prop := ∃ (ic : Int32) (A : Nat → Nat → Int32) (J : Nat → Int64), isMD tc ad F th 0 ic 0 A J ∧ (∀ t, t < 5 → A 1 t = 0) ∧ (∀ t, t < 8 → A 15 t = -1) ∧ (∀ t, t < 8 → A 16 t = -1) ∧ (∀ t, t < 3 → A 8 t = -1) ∧ (∀ t, t < 3 → A 9 t = 0)
/-! BAD PROGRAMS -/
def badI (ow : Int32) (n : Nat) (o a b : Int32) : Bool := (decide (o = 12) && !(wi b n)) || (decide (o = 6 ∨ o = 7) && decide (a = ow ∨ a = 0))
theorem bad_1 {ow o a b : Int32} {n : Nat} (h : o = 12) (hw : wi b n = false) : badI ow n o a b = true := by simp [badI, h, hw]
theorem bad_2 {ow o a b : Int32} {n : Nat} (h : o = 6 ∨ o = 7) (h2 : a = ow ∨ a = 0) : badI ow n o a b = true := by simp [badI, h, h2]
theorem bad_n {ow o a b : Int32} {n : Nat} (h12 : o = 12 → wi b n = true) (h67 : (o = 6 ∨ o = 7) → ¬ a = ow ∧ ¬ a = 0) : badI ow n o a b = false := by
  have e1 : (decide (o = 12) && !(wi b n)) = false := by
    by_cases h : o = 12
    · rw [h12 h]; simp
    · simp [h]
  have e2 : (decide (o = 6 ∨ o = 7) && decide (a = ow ∨ a = 0)) = false := by
    by_cases h : o = 6 ∨ o = 7
    · obtain ⟨q1, q2⟩ := h67 h; simp [q1, q2]
    · simp [h]
  simp only [badI, e1, e2, Bool.or_false]
def pgBad (ow : Int32) (sz : Nat) (fo fa fb : Nat → Int32) : Bool := (List.range sz).any fun n => badI ow n (fo n) (fa n) (fb n)
theorem any_t {P : Nat → Bool} {n i : Nat} (hi : i < n) (h : P i = true) : (List.range n).any P = true := List.any_eq_true.mpr ⟨i, List.mem_range.mpr hi, h⟩
theorem any_f {P : Nat → Bool} {n : Nat} (h : ∀ i, i < n → P i = false) : (List.range n).any P = false := by
  rw [Bool.eq_false_iff]
  intro q
  obtain ⟨i, h1, h2⟩ := List.any_eq_true.mp q
  rw [h i (List.mem_range.mp h1)] at h2
  cases h2
def allBad (sz : Nat → Nat) (fo fa fb : Nat → Nat → Int32) : Bool := ((List.range 5).any fun t => pgBad (nI t) (sz t) (fo t) (fa t) (fb t)) || decide (sz 0 = 0)
theorem wi_lt {b : Int32} {n : Nat} (hn : n < 2 ^ 31) (h1 : ¬ b < 0) (h2 : b < nI n) : wi b n = true := wi_t (N := nI n) (nI_toInt hn) h1 (fun q => by rw [Int32.lt_iff_toInt_lt] at h2; rw [Int32.le_iff_toInt_le] at q; omega)
theorem wi_nlt {b : Int32} {n : Nat} (hn : n < 2 ^ 31) (h2 : ¬ b < nI n) : wi b n = false := wi_f2 (N := nI n) (nI_toInt hn) (by rw [Int32.lt_iff_toInt_lt] at h2; rw [Int32.le_iff_toInt_le]; omega)
theorem isMD.back {tc : Nat → ClassId} {ad : Nat → Nat} {E E1 : Nat → va_E} {th st ic cn : Int32} {A : Nat → Nat → Int32} {J : Nat → Int64} (h : isMD tc (fun k => ad (0 + k)) E1 th st ic cn A J) : isMD tc ad (wU 17 (fun k => 0 + k) E E1) th st ic cn A J := by
  have e : ∀ k, k < 17 → wU 17 (fun k => 0 + k) E E1 k = E1 k := fun k hk => by
    have := wU_own (m := 17) (b := 0) (F := E) (E1 := E1) k hk
    rwa [Nat.zero_add] at this
  simp only [Nat.zero_add] at h
  unfold isMD
  rw [e 0 (by decide), e 1 (by decide), e 2 (by decide), e 3 (by decide), e 4 (by decide), e 5 (by decide), e 6 (by decide), e 7 (by decide), e 8 (by decide), e 9 (by decide), e 10 (by decide), e 11 (by decide), e 12 (by decide), e 13 (by decide), e 14 (by decide), e 15 (by decide), e 16 (by decide)]
  exact h
end
section
theorem dMD_thrown_0 : decode cMD_thrown 0 = .ok (.aload_n 0, 1) := by decide +kernel
theorem dMD_thrown_1 : decode cMD_thrown 1 = .ok (.getfield 63, 3) := by decide +kernel
theorem dMD_thrown_4 : decode cMD_thrown 4 = .ok (.ireturn, 1) := by decide +kernel
theorem dMD_raise_0 : decode cMD_raise 0 = .ok (.aload_n 0, 1) := by decide +kernel
theorem dMD_raise_1 : decode cMD_raise 1 = .ok (.iload_n 1, 1) := by decide +kernel
theorem dMD_raise_2 : decode cMD_raise 2 = .ok (.putfield 63, 3) := by decide +kernel
theorem dMD_raise_5 : decode cMD_raise 5 = .ok (.iconst 0, 1) := by decide +kernel
theorem dMD_raise_6 : decode cMD_raise 6 = .ok (.ireturn, 1) := by decide +kernel
theorem dMD_clear_0 : decode cMD_clear 0 = .ok (.aload_n 0, 1) := by decide +kernel
theorem dMD_clear_1 : decode cMD_clear 1 = .ok (.iconst 0, 1) := by decide +kernel
theorem dMD_clear_2 : decode cMD_clear 2 = .ok (.putfield 63, 3) := by decide +kernel
theorem dMD_clear_5 : decode cMD_clear 5 = .ok (.aload_n 0, 1) := by decide +kernel
theorem dMD_clear_6 : decode cMD_clear 6 = .ok (.iconst 0, 1) := by decide +kernel
theorem dMD_clear_7 : decode cMD_clear 7 = .ok (.putfield 71, 3) := by decide +kernel
theorem dMD_clear_10 : decode cMD_clear 10 = .ok (.aload_n 0, 1) := by decide +kernel
theorem dMD_clear_11 : decode cMD_clear 11 = .ok (.iconst 0, 1) := by decide +kernel
theorem dMD_clear_12 : decode cMD_clear 12 = .ok (.putfield 78, 3) := by decide +kernel
theorem dMD_clear_15 : decode cMD_clear 15 = .ok (.iconst 0, 1) := by decide +kernel
theorem dMD_clear_16 : decode cMD_clear 16 = .ok (.istore_n 1, 1) := by decide +kernel
theorem dMD_clear_17 : decode cMD_clear 17 = .ok (.iload_n 1, 1) := by decide +kernel
theorem dMD_clear_18 : decode cMD_clear 18 = .ok (.iconst 5, 1) := by decide +kernel
theorem dMD_clear_19 : decode cMD_clear 19 = .ok (.if_icmp .ge 16, 3) := by decide +kernel
theorem dMD_clear_22 : decode cMD_clear 22 = .ok (.aload_n 0, 1) := by decide +kernel
theorem dMD_clear_23 : decode cMD_clear 23 = .ok (.getfield 7, 3) := by decide +kernel
theorem dMD_clear_26 : decode cMD_clear 26 = .ok (.iload_n 1, 1) := by decide +kernel
theorem dMD_clear_27 : decode cMD_clear 27 = .ok (.iconst 0, 1) := by decide +kernel
theorem dMD_clear_28 : decode cMD_clear 28 = .ok (.iastore, 1) := by decide +kernel
theorem dMD_clear_29 : decode cMD_clear 29 = .ok (.iinc 1 1, 3) := by decide +kernel
theorem dMD_clear_32 : decode cMD_clear 32 = .ok (.goto (-15), 3) := by decide +kernel
theorem dMD_clear_35 : decode cMD_clear 35 = .ok (.iconst 0, 1) := by decide +kernel
theorem dMD_clear_36 : decode cMD_clear 36 = .ok (.istore_n 1, 1) := by decide +kernel
theorem dMD_clear_37 : decode cMD_clear 37 = .ok (.iload_n 1, 1) := by decide +kernel
theorem dMD_clear_38 : decode cMD_clear 38 = .ok (.bipush 8, 2) := by decide +kernel
theorem dMD_clear_40 : decode cMD_clear 40 = .ok (.if_icmp .ge 23, 3) := by decide +kernel
theorem dMD_clear_43 : decode cMD_clear 43 = .ok (.aload_n 0, 1) := by decide +kernel
theorem dMD_clear_44 : decode cMD_clear 44 = .ok (.getfield 54, 3) := by decide +kernel
theorem dMD_clear_47 : decode cMD_clear 47 = .ok (.iload_n 1, 1) := by decide +kernel
theorem dMD_clear_48 : decode cMD_clear 48 = .ok (.iconst (-1), 1) := by decide +kernel
theorem dMD_clear_49 : decode cMD_clear 49 = .ok (.iastore, 1) := by decide +kernel
theorem dMD_clear_50 : decode cMD_clear 50 = .ok (.aload_n 0, 1) := by decide +kernel
theorem dMD_clear_51 : decode cMD_clear 51 = .ok (.getfield 57, 3) := by decide +kernel
theorem dMD_clear_54 : decode cMD_clear 54 = .ok (.iload_n 1, 1) := by decide +kernel
theorem dMD_clear_55 : decode cMD_clear 55 = .ok (.iconst (-1), 1) := by decide +kernel
theorem dMD_clear_56 : decode cMD_clear 56 = .ok (.iastore, 1) := by decide +kernel
theorem dMD_clear_57 : decode cMD_clear 57 = .ok (.iinc 1 1, 3) := by decide +kernel
theorem dMD_clear_60 : decode cMD_clear 60 = .ok (.goto (-23), 3) := by decide +kernel
theorem dMD_clear_63 : decode cMD_clear 63 = .ok (.iconst 0, 1) := by decide +kernel
theorem dMD_clear_64 : decode cMD_clear 64 = .ok (.istore_n 1, 1) := by decide +kernel
theorem dMD_clear_65 : decode cMD_clear 65 = .ok (.iload_n 1, 1) := by decide +kernel
theorem dMD_clear_66 : decode cMD_clear 66 = .ok (.iconst 3, 1) := by decide +kernel
theorem dMD_clear_67 : decode cMD_clear 67 = .ok (.if_icmp .ge 23, 3) := by decide +kernel
theorem dMD_clear_70 : decode cMD_clear 70 = .ok (.aload_n 0, 1) := by decide +kernel
theorem dMD_clear_71 : decode cMD_clear 71 = .ok (.getfield 31, 3) := by decide +kernel
theorem dMD_clear_74 : decode cMD_clear 74 = .ok (.iload_n 1, 1) := by decide +kernel
theorem dMD_clear_75 : decode cMD_clear 75 = .ok (.iconst (-1), 1) := by decide +kernel
theorem dMD_clear_76 : decode cMD_clear 76 = .ok (.iastore, 1) := by decide +kernel
theorem dMD_clear_77 : decode cMD_clear 77 = .ok (.aload_n 0, 1) := by decide +kernel
theorem dMD_clear_78 : decode cMD_clear 78 = .ok (.getfield 34, 3) := by decide +kernel
theorem dMD_clear_81 : decode cMD_clear 81 = .ok (.iload_n 1, 1) := by decide +kernel
theorem dMD_clear_82 : decode cMD_clear 82 = .ok (.iconst 0, 1) := by decide +kernel
theorem dMD_clear_83 : decode cMD_clear 83 = .ok (.iastore, 1) := by decide +kernel
theorem dMD_clear_84 : decode cMD_clear 84 = .ok (.iinc 1 1, 3) := by decide +kernel
theorem dMD_clear_87 : decode cMD_clear 87 = .ok (.goto (-22), 3) := by decide +kernel
theorem dMD_clear_90 : decode cMD_clear 90 = .ok (.return_, 1) := by decide +kernel
theorem dMD_add_0 : decode cMD_add 0 = .ok (.aload_n 0, 1) := by decide +kernel
theorem dMD_add_1 : decode cMD_add 1 = .ok (.iconst 0, 1) := by decide +kernel
theorem dMD_add_2 : decode cMD_add 2 = .ok (.putfield 63, 3) := by decide +kernel
theorem dMD_add_5 : decode cMD_add 5 = .ok (.iload_n 1, 1) := by decide +kernel
theorem dMD_add_6 : decode cMD_add 6 = .ok (.iconst 5, 1) := by decide +kernel
theorem dMD_add_7 : decode cMD_add 7 = .ok (.invokestatic 67, 3) := by decide +kernel
theorem dMD_add_10 : decode cMD_add 10 = .ok (.ifCond .eq 38, 3) := by decide +kernel
theorem dMD_add_13 : decode cMD_add 13 = .ok (.aload_n 0, 1) := by decide +kernel
theorem dMD_add_14 : decode cMD_add 14 = .ok (.getfield 71, 3) := by decide +kernel
theorem dMD_add_17 : decode cMD_add 17 = .ok (.ifCond .ne 31, 3) := by decide +kernel
theorem dMD_add_20 : decode cMD_add 20 = .ok (.iload_n 2, 1) := by decide +kernel
theorem dMD_add_21 : decode cMD_add 21 = .ok (.bipush 13, 2) := by decide +kernel
theorem dMD_add_23 : decode cMD_add 23 = .ok (.invokestatic 67, 3) := by decide +kernel
theorem dMD_add_26 : decode cMD_add 26 = .ok (.ifCond .eq 22, 3) := by decide +kernel
theorem dMD_add_29 : decode cMD_add 29 = .ok (.iload_n 2, 1) := by decide +kernel
theorem dMD_add_30 : decode cMD_add 30 = .ok (.iload_n 3, 1) := by decide +kernel
theorem dMD_add_31 : decode cMD_add 31 = .ok (.invokestatic 75, 3) := by decide +kernel
theorem dMD_add_34 : decode cMD_add 34 = .ok (.ifCond .eq 14, 3) := by decide +kernel
theorem dMD_add_37 : decode cMD_add 37 = .ok (.aload_n 0, 1) := by decide +kernel
theorem dMD_add_38 : decode cMD_add 38 = .ok (.getfield 7, 3) := by decide +kernel
theorem dMD_add_41 : decode cMD_add 41 = .ok (.iload_n 1, 1) := by decide +kernel
theorem dMD_add_42 : decode cMD_add 42 = .ok (.iaload, 1) := by decide +kernel
theorem dMD_add_43 : decode cMD_add 43 = .ok (.bipush 12, 2) := by decide +kernel
theorem dMD_add_45 : decode cMD_add 45 = .ok (.if_icmp .ne 5, 3) := by decide +kernel
theorem dMD_add_48 : decode cMD_add 48 = .ok (.iconst (-1), 1) := by decide +kernel
theorem dMD_add_49 : decode cMD_add 49 = .ok (.ireturn, 1) := by decide +kernel
theorem dMD_add_50 : decode cMD_add 50 = .ok (.bipush 12, 2) := by decide +kernel
theorem dMD_add_52 : decode cMD_add 52 = .ok (.iload_n 1, 1) := by decide +kernel
theorem dMD_add_53 : decode cMD_add 53 = .ok (.imul, 1) := by decide +kernel
theorem dMD_add_54 : decode cMD_add 54 = .ok (.aload_n 0, 1) := by decide +kernel
theorem dMD_add_55 : decode cMD_add 55 = .ok (.getfield 7, 3) := by decide +kernel
theorem dMD_add_58 : decode cMD_add 58 = .ok (.iload_n 1, 1) := by decide +kernel
theorem dMD_add_59 : decode cMD_add 59 = .ok (.iaload, 1) := by decide +kernel
theorem dMD_add_60 : decode cMD_add 60 = .ok (.iadd, 1) := by decide +kernel
theorem dMD_add_61 : decode cMD_add 61 = .ok (.istore 5, 2) := by decide +kernel
theorem dMD_add_63 : decode cMD_add 63 = .ok (.aload_n 0, 1) := by decide +kernel
theorem dMD_add_64 : decode cMD_add 64 = .ok (.getfield 13, 3) := by decide +kernel
theorem dMD_add_67 : decode cMD_add 67 = .ok (.iload 5, 2) := by decide +kernel
theorem dMD_add_69 : decode cMD_add 69 = .ok (.iload_n 2, 1) := by decide +kernel
theorem dMD_add_70 : decode cMD_add 70 = .ok (.iastore, 1) := by decide +kernel
theorem dMD_add_71 : decode cMD_add 71 = .ok (.aload_n 0, 1) := by decide +kernel
theorem dMD_add_72 : decode cMD_add 72 = .ok (.getfield 16, 3) := by decide +kernel
theorem dMD_add_75 : decode cMD_add 75 = .ok (.iload 5, 2) := by decide +kernel
theorem dMD_add_77 : decode cMD_add 77 = .ok (.iload_n 3, 1) := by decide +kernel
theorem dMD_add_78 : decode cMD_add 78 = .ok (.iastore, 1) := by decide +kernel
theorem dMD_add_79 : decode cMD_add 79 = .ok (.aload_n 0, 1) := by decide +kernel
theorem dMD_add_80 : decode cMD_add 80 = .ok (.getfield 19, 3) := by decide +kernel
theorem dMD_add_83 : decode cMD_add 83 = .ok (.iload 5, 2) := by decide +kernel
theorem dMD_add_85 : decode cMD_add 85 = .ok (.iload 4, 2) := by decide +kernel
theorem dMD_add_87 : decode cMD_add 87 = .ok (.iastore, 1) := by decide +kernel
theorem dMD_add_88 : decode cMD_add 88 = .ok (.aload_n 0, 1) := by decide +kernel
theorem dMD_add_89 : decode cMD_add 89 = .ok (.getfield 7, 3) := by decide +kernel
theorem dMD_add_92 : decode cMD_add 92 = .ok (.iload_n 1, 1) := by decide +kernel
theorem dMD_add_93 : decode cMD_add 93 = .ok (.dup2, 1) := by decide +kernel
theorem dMD_add_94 : decode cMD_add 94 = .ok (.iaload, 1) := by decide +kernel
theorem dMD_add_95 : decode cMD_add 95 = .ok (.iconst 1, 1) := by decide +kernel
theorem dMD_add_96 : decode cMD_add 96 = .ok (.iadd, 1) := by decide +kernel
theorem dMD_add_97 : decode cMD_add 97 = .ok (.iastore, 1) := by decide +kernel
theorem dMD_add_98 : decode cMD_add 98 = .ok (.aload_n 0, 1) := by decide +kernel
theorem dMD_add_99 : decode cMD_add 99 = .ok (.getfield 7, 3) := by decide +kernel
theorem dMD_add_102 : decode cMD_add 102 = .ok (.iload_n 1, 1) := by decide +kernel
theorem dMD_add_103 : decode cMD_add 103 = .ok (.iaload, 1) := by decide +kernel
theorem dMD_add_104 : decode cMD_add 104 = .ok (.iconst 1, 1) := by decide +kernel
theorem dMD_add_105 : decode cMD_add 105 = .ok (.isub, 1) := by decide +kernel
theorem dMD_add_106 : decode cMD_add 106 = .ok (.ireturn, 1) := by decide +kernel
set_option maxHeartbeats 4000000 in
set_option maxRecDepth 100000 in
theorem c_MD_thrown (l : Launch) (D : va_G) (tc : Nat → ClassId) (ad : Nat → Nat) (E : Nat → va_E) (th st ic cn : Int32) (A : Nat → Nat → Int32) (J : Nat → Int64) (hM : isMD tc ad E th st ic cn A J) : Ct l D tc yMD_thrown 0 17 ad E [.ref (ad 0)] (fun o E2 => o = .returned (some (.int th)) ∧ E2 = E) := by
  refine Ct.ofW (cc := cMD_thrown) (maxL := 1) (ret := (some .int)) (own := R_MD) (by decide) rfl w_544 (Nat.le_of_ble_eq_true rfl) ?_
  intro p e s m args below meth c ls X hlk hr hD hP hS hl
  have hx := X.1
  have hb := X.2.1
  have hl : lv_has ls 1 [(0, .ref (ad 0))] := hl
  obtain ⟨m0, m1, m2, m3, m4, m5, m6, m7, m8, m9, m10, m11, m12, m13, m14, m15, m16⟩ := hM
  refine lv_aload_n hx hb dMD_thrown_0 rfl (lv_at hl 0 rfl) ?_
  refine g_MD_63 X hP (by omega) (m0) rfl dMD_thrown_1 ?_
  exact q_iret X hlk hr hP hS dMD_thrown_4 (⟨rfl, rfl⟩)
set_option maxHeartbeats 4000000 in
set_option maxRecDepth 100000 in
theorem c_MD_raise (l : Launch) (D : va_G) (tc : Nat → ClassId) (ad : Nat → Nat) (E : Nat → va_E) (th st ic cn : Int32) (A : Nat → Nat → Int32) (J : Nat → Int64) (x : Int32) (hM : isMD tc ad E th st ic cn A J) : Ct l D tc yMD_raise 0 17 ad E [.ref (ad 0), .int x] (fun o E2 => o = .returned (some (.int 0)) ∧ isMD tc ad E2 x st ic cn A J) := by
  refine Ct.ofW (cc := cMD_raise) (maxL := 2) (ret := (some .int)) (own := R_MD) (by decide) rfl w_563 (Nat.le_of_ble_eq_true rfl) ?_
  intro p e s m args below meth c ls X hlk hr hD hP hS hl
  have hx := X.1
  have hb := X.2.1
  have hl : lv_has ls 2 [(0, .ref (ad 0)), (1, .int x)] := hl
  obtain ⟨m0, m1, m2, m3, m4, m5, m6, m7, m8, m9, m10, m11, m12, m13, m14, m15, m16⟩ := hM
  refine lv_aload_n hx hb dMD_raise_0 rfl (lv_at hl 0 rfl) ?_
  refine lv_iload_n hx hb dMD_raise_1 rfl (lv_at hl 1 rfl) ?_
  refine p_MD_63 X hD hP hS (by omega) (m0) rfl rfl (Nat.le_of_ble_eq_true rfl) dMD_raise_2 (fun H locs hD hP hS => ?_)
  have hP : va_P D vwCl (wW 17 ad (va_up E 0 (.inr (7, [.int x, .int st, .int ic, .ref (ad 1), .ref (ad 2), .ref (ad 3), .ref (ad 4), .ref (ad 5), .ref (ad 6), .ref (ad 7), .ref (ad 8), .ref (ad 9), .int cn, .ref (ad 10), .ref (ad 11), .ref (ad 12), .ref (ad 13), .ref (ad 14), .ref (ad 15), .ref (ad 16)])))) H := hP
  have hD : va_D (Aw 17 ad) (wW 17 ad (va_up E 0 (.inr (7, [.int x, .int st, .int ic, .ref (ad 1), .ref (ad 2), .ref (ad 3), .ref (ad 4), .ref (ad 5), .ref (ad 6), .ref (ad 7), .ref (ad 8), .ref (ad 9), .int cn, .ref (ad 10), .ref (ad 11), .ref (ad 12), .ref (ad 13), .ref (ad 14), .ref (ad 15), .ref (ad 16)])))) := hD
  generalize g2 : va_up E 0 (.inr (7, [.int x, .int st, .int ic, .ref (ad 1), .ref (ad 2), .ref (ad 3), .ref (ad 4), .ref (ad 5), .ref (ad 6), .ref (ad 7), .ref (ad 8), .ref (ad 9), .int cn, .ref (ad 10), .ref (ad 11), .ref (ad 12), .ref (ad 13), .ref (ad 14), .ref (ad 15), .ref (ad 16)])) = E1 at hD hP
  have f3 : E1 0 = .inr (7, [.int x, .int st, .int ic, .ref (ad 1), .ref (ad 2), .ref (ad 3), .ref (ad 4), .ref (ad 5), .ref (ad 6), .ref (ad 7), .ref (ad 8), .ref (ad 9), .int cn, .ref (ad 10), .ref (ad 11), .ref (ad 12), .ref (ad 13), .ref (ad 14), .ref (ad 15), .ref (ad 16)]) := by rw [← g2]; exact va_up_self _ _ _
  have f4 : E1 1 = .inl (tc 0, 5, .inl (A 1)) := by rw [← g2, va_up_ne _ _ (by omega)]; exact m1
  have f5 : E1 2 = .inl (tc 0, 60, .inl (A 2)) := by rw [← g2, va_up_ne _ _ (by omega)]; exact m2
  have f6 : E1 3 = .inl (tc 0, 60, .inl (A 3)) := by rw [← g2, va_up_ne _ _ (by omega)]; exact m3
  have f7 : E1 4 = .inl (tc 0, 60, .inl (A 4)) := by rw [← g2, va_up_ne _ _ (by omega)]; exact m4
  have f8 : E1 5 = .inl (tc 0, 5, .inl (A 5)) := by rw [← g2, va_up_ne _ _ (by omega)]; exact m5
  have f9 : E1 6 = .inl (tc 0, 5, .inl (A 6)) := by rw [← g2, va_up_ne _ _ (by omega)]; exact m6
  have f10 : E1 7 = .inl (tc 0, 5, .inl (A 7)) := by rw [← g2, va_up_ne _ _ (by omega)]; exact m7
  have f11 : E1 8 = .inl (tc 0, 3, .inl (A 8)) := by rw [← g2, va_up_ne _ _ (by omega)]; exact m8
  have f12 : E1 9 = .inl (tc 0, 3, .inl (A 9)) := by rw [← g2, va_up_ne _ _ (by omega)]; exact m9
  have f13 : E1 10 = .inl (tc 0, 200, .inl (A 10)) := by rw [← g2, va_up_ne _ _ (by omega)]; exact m10
  have f14 : E1 11 = .inl (tc 0, 200, .inl (A 11)) := by rw [← g2, va_up_ne _ _ (by omega)]; exact m11
  have f15 : E1 12 = .inl (tc 0, 200, .inl (A 12)) := by rw [← g2, va_up_ne _ _ (by omega)]; exact m12
  have f16 : E1 13 = .inl (tc 2, 200, .inl (A 13)) := by rw [← g2, va_up_ne _ _ (by omega)]; exact m13
  have f17 : E1 15 = .inl (tc 0, 8, .inl (A 15)) := by rw [← g2, va_up_ne _ _ (by omega)]; exact m15
  have f18 : E1 16 = .inl (tc 0, 8, .inl (A 16)) := by rw [← g2, va_up_ne _ _ (by omega)]; exact m16
  have f19 : E1 14 = .inl (tc 1, 800, .inr (.inl J)) := by rw [← g2, va_up_ne _ _ (by omega)]; exact m14
  refine lv_iconst (v := 0) hx hb dMD_raise_5 (by decide) ?_
  exact q_iret X hlk hr hP hS dMD_raise_6 (⟨rfl, ⟨f3, f4, f5, f6, f7, f8, f9, f10, f11, f12, f13, f14, f15, f16, f19, f17, f18⟩⟩)
set_option maxHeartbeats 4000000 in
set_option maxRecDepth 100000 in
theorem c_MD_clear (l : Launch) (D : va_G) (tc : Nat → ClassId) (ad : Nat → Nat) (E : Nat → va_E) (th st ic cn : Int32) (A : Nat → Nat → Int32) (J : Nat → Int64) (hM : isMD tc ad E th st ic cn A J) : Ct l D tc yMD_clear 0 17 ad E [.ref (ad 0)] (fun o E2 => o = .returned none ∧ MDf tc ad E2 0) := by
  refine Ct.ofW (cc := cMD_clear) (maxL := 2) (ret := none) (own := R_MD) (by decide) rfl w_498 (Nat.le_of_ble_eq_true rfl) ?_
  intro p e s m args below meth c ls X hlk hr hD hP hS hl
  have hx := X.1
  have hb := X.2.1
  have hl : lv_has ls 2 [(0, .ref (ad 0))] := hl
  obtain ⟨m0, m1, m2, m3, m4, m5, m6, m7, m8, m9, m10, m11, m12, m13, m14, m15, m16⟩ := hM
  refine lv_aload_n hx hb dMD_clear_0 rfl (lv_at hl 0 rfl) ?_
  refine lv_iconst (v := 0) hx hb dMD_clear_1 (by decide) ?_
  refine p_MD_63 X hD hP hS (by omega) (m0) rfl rfl (Nat.le_of_ble_eq_true rfl) dMD_clear_2 (fun H locs hD hP hS => ?_)
  have hP : va_P D vwCl (wW 17 ad (va_up E 0 (.inr (7, [.int 0, .int st, .int ic, .ref (ad 1), .ref (ad 2), .ref (ad 3), .ref (ad 4), .ref (ad 5), .ref (ad 6), .ref (ad 7), .ref (ad 8), .ref (ad 9), .int cn, .ref (ad 10), .ref (ad 11), .ref (ad 12), .ref (ad 13), .ref (ad 14), .ref (ad 15), .ref (ad 16)])))) H := hP
  have hD : va_D (Aw 17 ad) (wW 17 ad (va_up E 0 (.inr (7, [.int 0, .int st, .int ic, .ref (ad 1), .ref (ad 2), .ref (ad 3), .ref (ad 4), .ref (ad 5), .ref (ad 6), .ref (ad 7), .ref (ad 8), .ref (ad 9), .int cn, .ref (ad 10), .ref (ad 11), .ref (ad 12), .ref (ad 13), .ref (ad 14), .ref (ad 15), .ref (ad 16)])))) := hD
  generalize g2 : va_up E 0 (.inr (7, [.int 0, .int st, .int ic, .ref (ad 1), .ref (ad 2), .ref (ad 3), .ref (ad 4), .ref (ad 5), .ref (ad 6), .ref (ad 7), .ref (ad 8), .ref (ad 9), .int cn, .ref (ad 10), .ref (ad 11), .ref (ad 12), .ref (ad 13), .ref (ad 14), .ref (ad 15), .ref (ad 16)])) = E1 at hD hP
  have f3 : E1 0 = .inr (7, [.int 0, .int st, .int ic, .ref (ad 1), .ref (ad 2), .ref (ad 3), .ref (ad 4), .ref (ad 5), .ref (ad 6), .ref (ad 7), .ref (ad 8), .ref (ad 9), .int cn, .ref (ad 10), .ref (ad 11), .ref (ad 12), .ref (ad 13), .ref (ad 14), .ref (ad 15), .ref (ad 16)]) := by rw [← g2]; exact va_up_self _ _ _
  have f4 : E1 1 = .inl (tc 0, 5, .inl (A 1)) := by rw [← g2, va_up_ne _ _ (by omega)]; exact m1
  have f5 : E1 2 = .inl (tc 0, 60, .inl (A 2)) := by rw [← g2, va_up_ne _ _ (by omega)]; exact m2
  have f6 : E1 3 = .inl (tc 0, 60, .inl (A 3)) := by rw [← g2, va_up_ne _ _ (by omega)]; exact m3
  have f7 : E1 4 = .inl (tc 0, 60, .inl (A 4)) := by rw [← g2, va_up_ne _ _ (by omega)]; exact m4
  have f8 : E1 5 = .inl (tc 0, 5, .inl (A 5)) := by rw [← g2, va_up_ne _ _ (by omega)]; exact m5
  have f9 : E1 6 = .inl (tc 0, 5, .inl (A 6)) := by rw [← g2, va_up_ne _ _ (by omega)]; exact m6
  have f10 : E1 7 = .inl (tc 0, 5, .inl (A 7)) := by rw [← g2, va_up_ne _ _ (by omega)]; exact m7
  have f11 : E1 8 = .inl (tc 0, 3, .inl (A 8)) := by rw [← g2, va_up_ne _ _ (by omega)]; exact m8
  have f12 : E1 9 = .inl (tc 0, 3, .inl (A 9)) := by rw [← g2, va_up_ne _ _ (by omega)]; exact m9
  have f13 : E1 10 = .inl (tc 0, 200, .inl (A 10)) := by rw [← g2, va_up_ne _ _ (by omega)]; exact m10
  have f14 : E1 11 = .inl (tc 0, 200, .inl (A 11)) := by rw [← g2, va_up_ne _ _ (by omega)]; exact m11
  have f15 : E1 12 = .inl (tc 0, 200, .inl (A 12)) := by rw [← g2, va_up_ne _ _ (by omega)]; exact m12
  have f16 : E1 13 = .inl (tc 2, 200, .inl (A 13)) := by rw [← g2, va_up_ne _ _ (by omega)]; exact m13
  have f17 : E1 15 = .inl (tc 0, 8, .inl (A 15)) := by rw [← g2, va_up_ne _ _ (by omega)]; exact m15
  have f18 : E1 16 = .inl (tc 0, 8, .inl (A 16)) := by rw [← g2, va_up_ne _ _ (by omega)]; exact m16
  have f19 : E1 14 = .inl (tc 1, 800, .inr (.inl J)) := by rw [← g2, va_up_ne _ _ (by omega)]; exact m14
  refine lv_aload_n hx hb dMD_clear_5 rfl (lv_at hl 0 rfl) ?_
  refine lv_iconst (v := 0) hx hb dMD_clear_6 (by decide) ?_
  refine p_MD_71 X hD hP hS (by omega) (f3) (by decide) rfl (Nat.le_of_ble_eq_true rfl) dMD_clear_7 (fun H locs hD hP hS => ?_)
  have hP : va_P D vwCl (wW 17 ad (va_up E1 0 (.inr (7, [.int 0, .int 0, .int ic, .ref (ad 1), .ref (ad 2), .ref (ad 3), .ref (ad 4), .ref (ad 5), .ref (ad 6), .ref (ad 7), .ref (ad 8), .ref (ad 9), .int cn, .ref (ad 10), .ref (ad 11), .ref (ad 12), .ref (ad 13), .ref (ad 14), .ref (ad 15), .ref (ad 16)])))) H := hP
  have hD : va_D (Aw 17 ad) (wW 17 ad (va_up E1 0 (.inr (7, [.int 0, .int 0, .int ic, .ref (ad 1), .ref (ad 2), .ref (ad 3), .ref (ad 4), .ref (ad 5), .ref (ad 6), .ref (ad 7), .ref (ad 8), .ref (ad 9), .int cn, .ref (ad 10), .ref (ad 11), .ref (ad 12), .ref (ad 13), .ref (ad 14), .ref (ad 15), .ref (ad 16)])))) := hD
  generalize g21 : va_up E1 0 (.inr (7, [.int 0, .int 0, .int ic, .ref (ad 1), .ref (ad 2), .ref (ad 3), .ref (ad 4), .ref (ad 5), .ref (ad 6), .ref (ad 7), .ref (ad 8), .ref (ad 9), .int cn, .ref (ad 10), .ref (ad 11), .ref (ad 12), .ref (ad 13), .ref (ad 14), .ref (ad 15), .ref (ad 16)])) = E20 at hD hP
  have f22 : E20 0 = .inr (7, [.int 0, .int 0, .int ic, .ref (ad 1), .ref (ad 2), .ref (ad 3), .ref (ad 4), .ref (ad 5), .ref (ad 6), .ref (ad 7), .ref (ad 8), .ref (ad 9), .int cn, .ref (ad 10), .ref (ad 11), .ref (ad 12), .ref (ad 13), .ref (ad 14), .ref (ad 15), .ref (ad 16)]) := by rw [← g21]; exact va_up_self _ _ _
  have f23 : E20 1 = .inl (tc 0, 5, .inl (A 1)) := by rw [← g21, va_up_ne _ _ (by omega)]; exact f4
  have f24 : E20 2 = .inl (tc 0, 60, .inl (A 2)) := by rw [← g21, va_up_ne _ _ (by omega)]; exact f5
  have f25 : E20 3 = .inl (tc 0, 60, .inl (A 3)) := by rw [← g21, va_up_ne _ _ (by omega)]; exact f6
  have f26 : E20 4 = .inl (tc 0, 60, .inl (A 4)) := by rw [← g21, va_up_ne _ _ (by omega)]; exact f7
  have f27 : E20 5 = .inl (tc 0, 5, .inl (A 5)) := by rw [← g21, va_up_ne _ _ (by omega)]; exact f8
  have f28 : E20 6 = .inl (tc 0, 5, .inl (A 6)) := by rw [← g21, va_up_ne _ _ (by omega)]; exact f9
  have f29 : E20 7 = .inl (tc 0, 5, .inl (A 7)) := by rw [← g21, va_up_ne _ _ (by omega)]; exact f10
  have f30 : E20 8 = .inl (tc 0, 3, .inl (A 8)) := by rw [← g21, va_up_ne _ _ (by omega)]; exact f11
  have f31 : E20 9 = .inl (tc 0, 3, .inl (A 9)) := by rw [← g21, va_up_ne _ _ (by omega)]; exact f12
  have f32 : E20 10 = .inl (tc 0, 200, .inl (A 10)) := by rw [← g21, va_up_ne _ _ (by omega)]; exact f13
  have f33 : E20 11 = .inl (tc 0, 200, .inl (A 11)) := by rw [← g21, va_up_ne _ _ (by omega)]; exact f14
  have f34 : E20 12 = .inl (tc 0, 200, .inl (A 12)) := by rw [← g21, va_up_ne _ _ (by omega)]; exact f15
  have f35 : E20 13 = .inl (tc 2, 200, .inl (A 13)) := by rw [← g21, va_up_ne _ _ (by omega)]; exact f16
  have f36 : E20 15 = .inl (tc 0, 8, .inl (A 15)) := by rw [← g21, va_up_ne _ _ (by omega)]; exact f17
  have f37 : E20 16 = .inl (tc 0, 8, .inl (A 16)) := by rw [← g21, va_up_ne _ _ (by omega)]; exact f18
  have f38 : E20 14 = .inl (tc 1, 800, .inr (.inl J)) := by rw [← g21, va_up_ne _ _ (by omega)]; exact f19
  refine lv_aload_n hx hb dMD_clear_10 rfl (lv_at hl 0 rfl) ?_
  refine lv_iconst (v := 0) hx hb dMD_clear_11 (by decide) ?_
  refine p_MD_78 X hD hP hS (by omega) (f22) rfl rfl (Nat.le_of_ble_eq_true rfl) dMD_clear_12 (fun H locs hD hP hS => ?_)
  have hP : va_P D vwCl (wW 17 ad (va_up E20 0 (.inr (7, [.int 0, .int 0, .int ic, .ref (ad 1), .ref (ad 2), .ref (ad 3), .ref (ad 4), .ref (ad 5), .ref (ad 6), .ref (ad 7), .ref (ad 8), .ref (ad 9), .int 0, .ref (ad 10), .ref (ad 11), .ref (ad 12), .ref (ad 13), .ref (ad 14), .ref (ad 15), .ref (ad 16)])))) H := hP
  have hD : va_D (Aw 17 ad) (wW 17 ad (va_up E20 0 (.inr (7, [.int 0, .int 0, .int ic, .ref (ad 1), .ref (ad 2), .ref (ad 3), .ref (ad 4), .ref (ad 5), .ref (ad 6), .ref (ad 7), .ref (ad 8), .ref (ad 9), .int 0, .ref (ad 10), .ref (ad 11), .ref (ad 12), .ref (ad 13), .ref (ad 14), .ref (ad 15), .ref (ad 16)])))) := hD
  generalize g40 : va_up E20 0 (.inr (7, [.int 0, .int 0, .int ic, .ref (ad 1), .ref (ad 2), .ref (ad 3), .ref (ad 4), .ref (ad 5), .ref (ad 6), .ref (ad 7), .ref (ad 8), .ref (ad 9), .int 0, .ref (ad 10), .ref (ad 11), .ref (ad 12), .ref (ad 13), .ref (ad 14), .ref (ad 15), .ref (ad 16)])) = E39 at hD hP
  have f41 : E39 0 = .inr (7, [.int 0, .int 0, .int ic, .ref (ad 1), .ref (ad 2), .ref (ad 3), .ref (ad 4), .ref (ad 5), .ref (ad 6), .ref (ad 7), .ref (ad 8), .ref (ad 9), .int 0, .ref (ad 10), .ref (ad 11), .ref (ad 12), .ref (ad 13), .ref (ad 14), .ref (ad 15), .ref (ad 16)]) := by rw [← g40]; exact va_up_self _ _ _
  have f42 : E39 1 = .inl (tc 0, 5, .inl (A 1)) := by rw [← g40, va_up_ne _ _ (by omega)]; exact f23
  have f43 : E39 2 = .inl (tc 0, 60, .inl (A 2)) := by rw [← g40, va_up_ne _ _ (by omega)]; exact f24
  have f44 : E39 3 = .inl (tc 0, 60, .inl (A 3)) := by rw [← g40, va_up_ne _ _ (by omega)]; exact f25
  have f45 : E39 4 = .inl (tc 0, 60, .inl (A 4)) := by rw [← g40, va_up_ne _ _ (by omega)]; exact f26
  have f46 : E39 5 = .inl (tc 0, 5, .inl (A 5)) := by rw [← g40, va_up_ne _ _ (by omega)]; exact f27
  have f47 : E39 6 = .inl (tc 0, 5, .inl (A 6)) := by rw [← g40, va_up_ne _ _ (by omega)]; exact f28
  have f48 : E39 7 = .inl (tc 0, 5, .inl (A 7)) := by rw [← g40, va_up_ne _ _ (by omega)]; exact f29
  have f49 : E39 8 = .inl (tc 0, 3, .inl (A 8)) := by rw [← g40, va_up_ne _ _ (by omega)]; exact f30
  have f50 : E39 9 = .inl (tc 0, 3, .inl (A 9)) := by rw [← g40, va_up_ne _ _ (by omega)]; exact f31
  have f51 : E39 10 = .inl (tc 0, 200, .inl (A 10)) := by rw [← g40, va_up_ne _ _ (by omega)]; exact f32
  have f52 : E39 11 = .inl (tc 0, 200, .inl (A 11)) := by rw [← g40, va_up_ne _ _ (by omega)]; exact f33
  have f53 : E39 12 = .inl (tc 0, 200, .inl (A 12)) := by rw [← g40, va_up_ne _ _ (by omega)]; exact f34
  have f54 : E39 13 = .inl (tc 2, 200, .inl (A 13)) := by rw [← g40, va_up_ne _ _ (by omega)]; exact f35
  have f55 : E39 15 = .inl (tc 0, 8, .inl (A 15)) := by rw [← g40, va_up_ne _ _ (by omega)]; exact f36
  have f56 : E39 16 = .inl (tc 0, 8, .inl (A 16)) := by rw [← g40, va_up_ne _ _ (by omega)]; exact f37
  have f57 : E39 14 = .inl (tc 1, 800, .inr (.inl J)) := by rw [← g40, va_up_ne _ _ (by omega)]; exact f38
  refine lv_iconst (v := 0) hx hb dMD_clear_15 (by decide) ?_
  refine lv_istore_n hx hb dMD_clear_16 rfl hl (by decide) rfl (fun ls hl => ?_)
  have hl : lv_has ls 2 [(1, .int 0), (0, .ref (ad 0))] := hl
  have loop1 : ∀ (r i : Nat) (B : Nat → Nat → Int32) (H : Heap) (locs : List Loc) (ls : Array Slot) (F : Nat → va_E), i + r = 5 → isMD tc ad F 0 0 ic 0 B J → (∀ j, j < i → B 1 j = 0) → va_D (Aw 17 ad) (wW 17 ad F) → va_P D vwCl (wW 17 ad F) H → va_S (Aw 17 ad) s.heap H locs → lv_has ls 2 [(1, .int (nI i)), (0, .ref (ad 0))] → W p l e (rmD 0) s m args below meth c H locs 0 0 (XQ below (CtQ D 17 ad (fun o E2 => o = .returned none ∧ MDf tc ad E2 0)) args s 0 0 (Aw 17 ad)) (F0 m 17 ls []) := by
    intro r
    induction r with
    | zero =>
      intro i B H locs ls F hi hM q1 hD hP hS hl
      obtain ⟨m0, m1, m2, m3, m4, m5, m6, m7, m8, m9, m10, m11, m12, m13, m14, m15, m16⟩ := hM
      refine lv_iload_n hx hb dMD_clear_17 rfl (lv_at hl 0 rfl) ?_
      refine lv_iconst (v := 5) hx hb dMD_clear_18 (by decide) ?_
      refine lv_icmp_ge (tgt := 35) hx hb dMD_clear_19 rfl (fun h19 => ?_) (fun h19 => absurd (nI_le (a := 5) (b := i) (by omega) (by omega)) h19)
      have hi5 : i = 5 := by omega
      subst hi5
      have loop2 : ∀ (r i : Nat) (C : Nat → Nat → Int32) (H : Heap) (locs : List Loc) (ls : Array Slot) (G : Nat → va_E), i + r = 8 → isMD tc ad G 0 0 ic 0 C J → (∀ j, j < 5 → C 1 j = 0) → (∀ j, j < i → C 15 j = -1) → (∀ j, j < i → C 16 j = -1) → va_D (Aw 17 ad) (wW 17 ad G) → va_P D vwCl (wW 17 ad G) H → va_S (Aw 17 ad) s.heap H locs → lv_has ls 2 [(1, .int (nI i)), (0, .ref (ad 0))] → W p l e (rmD 0) s m args below meth c H locs 0 0 (XQ below (CtQ D 17 ad (fun o E2 => o = .returned none ∧ MDf tc ad E2 0)) args s 0 0 (Aw 17 ad)) (F0 m 37 ls []) := by
        intro r
        induction r with
        | zero =>
          intro i C H locs ls G hi hM q1 q2 q3 hD hP hS hl
          obtain ⟨m0, m1, m2, m3, m4, m5, m6, m7, m8, m9, m10, m11, m12, m13, m14, m15, m16⟩ := hM
          refine lv_iload_n hx hb dMD_clear_37 rfl (lv_at hl 0 rfl) ?_
          refine lv_bipush (v := 8) hx hb dMD_clear_38 (by decide) ?_
          refine lv_icmp_ge (tgt := 63) hx hb dMD_clear_40 rfl (fun h40 => ?_) (fun h40 => absurd (nI_le (a := 8) (b := i) (by omega) (by omega)) h40)
          have hi8 : i = 8 := by omega
          subst hi8
          have loop3 : ∀ (r i : Nat) (K : Nat → Nat → Int32) (H : Heap) (locs : List Loc) (ls : Array Slot) (M : Nat → va_E), i + r = 3 → isMD tc ad M 0 0 ic 0 K J → (∀ j, j < 5 → K 1 j = 0) → (∀ j, j < 8 → K 15 j = -1) → (∀ j, j < 8 → K 16 j = -1) → (∀ j, j < i → K 8 j = -1) → (∀ j, j < i → K 9 j = 0) → va_D (Aw 17 ad) (wW 17 ad M) → va_P D vwCl (wW 17 ad M) H → va_S (Aw 17 ad) s.heap H locs → lv_has ls 2 [(1, .int (nI i)), (0, .ref (ad 0))] → W p l e (rmD 0) s m args below meth c H locs 0 0 (XQ below (CtQ D 17 ad (fun o E2 => o = .returned none ∧ MDf tc ad E2 0)) args s 0 0 (Aw 17 ad)) (F0 m 65 ls []) := by
            intro r
            induction r with
            | zero =>
              intro i K H locs ls M hi hM q1 q2 q3 q4 q5 hD hP hS hl
              have hM0 := hM
              obtain ⟨m0, m1, m2, m3, m4, m5, m6, m7, m8, m9, m10, m11, m12, m13, m14, m15, m16⟩ := hM
              refine lv_iload_n hx hb dMD_clear_65 rfl (lv_at hl 0 rfl) ?_
              refine lv_iconst (v := 3) hx hb dMD_clear_66 (by decide) ?_
              refine lv_icmp_ge (tgt := 90) hx hb dMD_clear_67 rfl (fun h67 => ?_) (fun h67 => absurd (nI_le (a := 3) (b := i) (by omega) (by omega)) h67)
              exact q_vret X hlk hr hP hS dMD_clear_90 (⟨rfl, ic, K, J, hM0, q1, q2, q3, fun t ht => q4 t (by omega), fun t ht => q5 t (by omega)⟩)
            | succ r ih =>
              intro i K H locs ls M hi hM q1 q2 q3 q4 q5 hD hP hS hl
              have hM0 := hM
              obtain ⟨m0, m1, m2, m3, m4, m5, m6, m7, m8, m9, m10, m11, m12, m13, m14, m15, m16⟩ := hM
              refine lv_iload_n hx hb dMD_clear_65 rfl (lv_at hl 0 rfl) ?_
              refine lv_iconst (v := 3) hx hb dMD_clear_66 (by decide) ?_
              refine lv_icmp_ge (tgt := 90) hx hb dMD_clear_67 rfl (fun h67 => absurd h67 (nI_ge (a := i) (b := 3) (by omega) (by omega))) (fun h67 => ?_)
              refine lv_aload_n hx hb dMD_clear_70 rfl (lv_at hl 1 rfl) ?_
              refine g_MD_31 X hP (by omega) (m0) rfl dMD_clear_71 ?_
              refine lv_iload_n hx hb dMD_clear_74 rfl (lv_at hl 0 rfl) ?_
              refine lv_iconst (v := (-1)) hx hb dMD_clear_75 (by decide) ?_
              refine q_iast i X hD hP hS (by omega) (m8) (rfl) (by omega) (by decide) dMD_clear_76 (fun H locs hD hP hS => ?_)
              have hP : va_P D vwCl (wW 17 ad (va_up M 8 (.inl (tc 0, 3, .inl (upd (K 8) i (-1)))))) H := hP
              have hD : va_D (Aw 17 ad) (wW 17 ad (va_up M 8 (.inl (tc 0, 3, .inl (upd (K 8) i (-1)))))) := hD
              generalize g59 : va_up M 8 (.inl (tc 0, 3, .inl (upd (K 8) i (-1)))) = E58 at hD hP
              have f60 : E58 0 = .inr (7, [.int 0, .int 0, .int ic, .ref (ad 1), .ref (ad 2), .ref (ad 3), .ref (ad 4), .ref (ad 5), .ref (ad 6), .ref (ad 7), .ref (ad 8), .ref (ad 9), .int 0, .ref (ad 10), .ref (ad 11), .ref (ad 12), .ref (ad 13), .ref (ad 14), .ref (ad 15), .ref (ad 16)]) := by rw [← g59, va_up_ne _ _ (by omega)]; exact m0
              have f61 : E58 1 = .inl (tc 0, 5, .inl (K 1)) := by rw [← g59, va_up_ne _ _ (by omega)]; exact m1
              have f62 : E58 2 = .inl (tc 0, 60, .inl (K 2)) := by rw [← g59, va_up_ne _ _ (by omega)]; exact m2
              have f63 : E58 3 = .inl (tc 0, 60, .inl (K 3)) := by rw [← g59, va_up_ne _ _ (by omega)]; exact m3
              have f64 : E58 4 = .inl (tc 0, 60, .inl (K 4)) := by rw [← g59, va_up_ne _ _ (by omega)]; exact m4
              have f65 : E58 5 = .inl (tc 0, 5, .inl (K 5)) := by rw [← g59, va_up_ne _ _ (by omega)]; exact m5
              have f66 : E58 6 = .inl (tc 0, 5, .inl (K 6)) := by rw [← g59, va_up_ne _ _ (by omega)]; exact m6
              have f67 : E58 7 = .inl (tc 0, 5, .inl (K 7)) := by rw [← g59, va_up_ne _ _ (by omega)]; exact m7
              have f68 : E58 8 = .inl (tc 0, 3, .inl (upd (K 8) i (-1))) := by rw [← g59]; exact va_up_self _ _ _
              have f69 : E58 9 = .inl (tc 0, 3, .inl (K 9)) := by rw [← g59, va_up_ne _ _ (by omega)]; exact m9
              have f70 : E58 10 = .inl (tc 0, 200, .inl (K 10)) := by rw [← g59, va_up_ne _ _ (by omega)]; exact m10
              have f71 : E58 11 = .inl (tc 0, 200, .inl (K 11)) := by rw [← g59, va_up_ne _ _ (by omega)]; exact m11
              have f72 : E58 12 = .inl (tc 0, 200, .inl (K 12)) := by rw [← g59, va_up_ne _ _ (by omega)]; exact m12
              have f73 : E58 13 = .inl (tc 2, 200, .inl (K 13)) := by rw [← g59, va_up_ne _ _ (by omega)]; exact m13
              have f74 : E58 15 = .inl (tc 0, 8, .inl (K 15)) := by rw [← g59, va_up_ne _ _ (by omega)]; exact m15
              have f75 : E58 16 = .inl (tc 0, 8, .inl (K 16)) := by rw [← g59, va_up_ne _ _ (by omega)]; exact m16
              have f76 : E58 14 = .inl (tc 1, 800, .inr (.inl J)) := by rw [← g59, va_up_ne _ _ (by omega)]; exact m14
              refine lv_aload_n hx hb dMD_clear_77 rfl (lv_at hl 1 rfl) ?_
              refine g_MD_34 X hP (by omega) (f60) rfl dMD_clear_78 ?_
              refine lv_iload_n hx hb dMD_clear_81 rfl (lv_at hl 0 rfl) ?_
              refine lv_iconst (v := 0) hx hb dMD_clear_82 (by decide) ?_
              refine q_iast i X hD hP hS (by omega) (f69) (rfl) (by omega) (by decide) dMD_clear_83 (fun H locs hD hP hS => ?_)
              have hP : va_P D vwCl (wW 17 ad (va_up E58 9 (.inl (tc 0, 3, .inl (upd (K 9) i 0))))) H := hP
              have hD : va_D (Aw 17 ad) (wW 17 ad (va_up E58 9 (.inl (tc 0, 3, .inl (upd (K 9) i 0))))) := hD
              generalize g78 : va_up E58 9 (.inl (tc 0, 3, .inl (upd (K 9) i 0))) = E77 at hD hP
              have f79 : E77 0 = .inr (7, [.int 0, .int 0, .int ic, .ref (ad 1), .ref (ad 2), .ref (ad 3), .ref (ad 4), .ref (ad 5), .ref (ad 6), .ref (ad 7), .ref (ad 8), .ref (ad 9), .int 0, .ref (ad 10), .ref (ad 11), .ref (ad 12), .ref (ad 13), .ref (ad 14), .ref (ad 15), .ref (ad 16)]) := by rw [← g78, va_up_ne _ _ (by omega)]; exact f60
              have f80 : E77 1 = .inl (tc 0, 5, .inl (K 1)) := by rw [← g78, va_up_ne _ _ (by omega)]; exact f61
              have f81 : E77 2 = .inl (tc 0, 60, .inl (K 2)) := by rw [← g78, va_up_ne _ _ (by omega)]; exact f62
              have f82 : E77 3 = .inl (tc 0, 60, .inl (K 3)) := by rw [← g78, va_up_ne _ _ (by omega)]; exact f63
              have f83 : E77 4 = .inl (tc 0, 60, .inl (K 4)) := by rw [← g78, va_up_ne _ _ (by omega)]; exact f64
              have f84 : E77 5 = .inl (tc 0, 5, .inl (K 5)) := by rw [← g78, va_up_ne _ _ (by omega)]; exact f65
              have f85 : E77 6 = .inl (tc 0, 5, .inl (K 6)) := by rw [← g78, va_up_ne _ _ (by omega)]; exact f66
              have f86 : E77 7 = .inl (tc 0, 5, .inl (K 7)) := by rw [← g78, va_up_ne _ _ (by omega)]; exact f67
              have f87 : E77 8 = .inl (tc 0, 3, .inl (upd (K 8) i (-1))) := by rw [← g78, va_up_ne _ _ (by omega)]; exact f68
              have f88 : E77 9 = .inl (tc 0, 3, .inl (upd (K 9) i 0)) := by rw [← g78]; exact va_up_self _ _ _
              have f89 : E77 10 = .inl (tc 0, 200, .inl (K 10)) := by rw [← g78, va_up_ne _ _ (by omega)]; exact f70
              have f90 : E77 11 = .inl (tc 0, 200, .inl (K 11)) := by rw [← g78, va_up_ne _ _ (by omega)]; exact f71
              have f91 : E77 12 = .inl (tc 0, 200, .inl (K 12)) := by rw [← g78, va_up_ne _ _ (by omega)]; exact f72
              have f92 : E77 13 = .inl (tc 2, 200, .inl (K 13)) := by rw [← g78, va_up_ne _ _ (by omega)]; exact f73
              have f93 : E77 15 = .inl (tc 0, 8, .inl (K 15)) := by rw [← g78, va_up_ne _ _ (by omega)]; exact f74
              have f94 : E77 16 = .inl (tc 0, 8, .inl (K 16)) := by rw [← g78, va_up_ne _ _ (by omega)]; exact f75
              have f95 : E77 14 = .inl (tc 1, 800, .inr (.inl J)) := by rw [← g78, va_up_ne _ _ (by omega)]; exact f76
              refine lv_iinc (k := 0) (v := nI (i + 1)) hx hb dMD_clear_84 hl rfl (nI_1 i) (by decide) rfl (fun ls hl => ?_)
              have hl : lv_has ls 2 [(1, .int (nI (i + 1))), (0, .ref (ad 0))] := hl
              refine lv_goto (tgt := 65) hx hb dMD_clear_87 rfl ?_
              exact ih (i + 1) (va_up (va_up K 8 (upd (K 8) i (-1))) 9 (upd (K 9) i 0)) _ _ _ _ (by omega) ⟨f79, f80, f81, f82, f83, f84, f85, f86, f87, f88, f89, f90, f91, f92, f95, f93, f94⟩ q1 q2 q3 (fun j hj => by by_cases h : j = i; (· subst h; exact pk_us); (· exact (pk_un h).trans (q4 j (by omega)))) (fun j hj => by by_cases h : j = i; (· subst h; exact pk_us); (· exact (pk_un h).trans (q5 j (by omega)))) hD hP hS hl
          refine lv_iconst (v := 0) hx hb dMD_clear_63 (by decide) ?_
          refine lv_istore_n hx hb dMD_clear_64 rfl hl (by decide) rfl (fun ls hl => ?_)
          have hl : lv_has ls 2 [(1, .int 0), (0, .ref (ad 0))] := hl
          exact loop3 3 0 C _ _ _ _ (by omega) ⟨m0, m1, m2, m3, m4, m5, m6, m7, m8, m9, m10, m11, m12, m13, m14, m15, m16⟩ q1 q2 q3 (fun t h => absurd h (Nat.not_lt_zero t)) (fun t h => absurd h (Nat.not_lt_zero t)) hD hP hS hl
        | succ r ih =>
          intro i C H locs ls G hi hM q1 q2 q3 hD hP hS hl
          obtain ⟨m0, m1, m2, m3, m4, m5, m6, m7, m8, m9, m10, m11, m12, m13, m14, m15, m16⟩ := hM
          refine lv_iload_n hx hb dMD_clear_37 rfl (lv_at hl 0 rfl) ?_
          refine lv_bipush (v := 8) hx hb dMD_clear_38 (by decide) ?_
          refine lv_icmp_ge (tgt := 63) hx hb dMD_clear_40 rfl (fun h40 => absurd h40 (nI_ge (a := i) (b := 8) (by omega) (by omega))) (fun h40 => ?_)
          refine lv_aload_n hx hb dMD_clear_43 rfl (lv_at hl 1 rfl) ?_
          refine g_MD_54 X hP (by omega) (m0) rfl dMD_clear_44 ?_
          refine lv_iload_n hx hb dMD_clear_47 rfl (lv_at hl 0 rfl) ?_
          refine lv_iconst (v := (-1)) hx hb dMD_clear_48 (by decide) ?_
          refine q_iast i X hD hP hS (by omega) (m15) (rfl) (by omega) (by decide) dMD_clear_49 (fun H locs hD hP hS => ?_)
          have hP : va_P D vwCl (wW 17 ad (va_up G 15 (.inl (tc 0, 8, .inl (upd (C 15) i (-1)))))) H := hP
          have hD : va_D (Aw 17 ad) (wW 17 ad (va_up G 15 (.inl (tc 0, 8, .inl (upd (C 15) i (-1)))))) := hD
          generalize g97 : va_up G 15 (.inl (tc 0, 8, .inl (upd (C 15) i (-1)))) = E96 at hD hP
          have f98 : E96 0 = .inr (7, [.int 0, .int 0, .int ic, .ref (ad 1), .ref (ad 2), .ref (ad 3), .ref (ad 4), .ref (ad 5), .ref (ad 6), .ref (ad 7), .ref (ad 8), .ref (ad 9), .int 0, .ref (ad 10), .ref (ad 11), .ref (ad 12), .ref (ad 13), .ref (ad 14), .ref (ad 15), .ref (ad 16)]) := by rw [← g97, va_up_ne _ _ (by omega)]; exact m0
          have f99 : E96 1 = .inl (tc 0, 5, .inl (C 1)) := by rw [← g97, va_up_ne _ _ (by omega)]; exact m1
          have f100 : E96 2 = .inl (tc 0, 60, .inl (C 2)) := by rw [← g97, va_up_ne _ _ (by omega)]; exact m2
          have f101 : E96 3 = .inl (tc 0, 60, .inl (C 3)) := by rw [← g97, va_up_ne _ _ (by omega)]; exact m3
          have f102 : E96 4 = .inl (tc 0, 60, .inl (C 4)) := by rw [← g97, va_up_ne _ _ (by omega)]; exact m4
          have f103 : E96 5 = .inl (tc 0, 5, .inl (C 5)) := by rw [← g97, va_up_ne _ _ (by omega)]; exact m5
          have f104 : E96 6 = .inl (tc 0, 5, .inl (C 6)) := by rw [← g97, va_up_ne _ _ (by omega)]; exact m6
          have f105 : E96 7 = .inl (tc 0, 5, .inl (C 7)) := by rw [← g97, va_up_ne _ _ (by omega)]; exact m7
          have f106 : E96 8 = .inl (tc 0, 3, .inl (C 8)) := by rw [← g97, va_up_ne _ _ (by omega)]; exact m8
          have f107 : E96 9 = .inl (tc 0, 3, .inl (C 9)) := by rw [← g97, va_up_ne _ _ (by omega)]; exact m9
          have f108 : E96 10 = .inl (tc 0, 200, .inl (C 10)) := by rw [← g97, va_up_ne _ _ (by omega)]; exact m10
          have f109 : E96 11 = .inl (tc 0, 200, .inl (C 11)) := by rw [← g97, va_up_ne _ _ (by omega)]; exact m11
          have f110 : E96 12 = .inl (tc 0, 200, .inl (C 12)) := by rw [← g97, va_up_ne _ _ (by omega)]; exact m12
          have f111 : E96 13 = .inl (tc 2, 200, .inl (C 13)) := by rw [← g97, va_up_ne _ _ (by omega)]; exact m13
          have f112 : E96 15 = .inl (tc 0, 8, .inl (upd (C 15) i (-1))) := by rw [← g97]; exact va_up_self _ _ _
          have f113 : E96 16 = .inl (tc 0, 8, .inl (C 16)) := by rw [← g97, va_up_ne _ _ (by omega)]; exact m16
          have f114 : E96 14 = .inl (tc 1, 800, .inr (.inl J)) := by rw [← g97, va_up_ne _ _ (by omega)]; exact m14
          refine lv_aload_n hx hb dMD_clear_50 rfl (lv_at hl 1 rfl) ?_
          refine g_MD_57 X hP (by omega) (f98) rfl dMD_clear_51 ?_
          refine lv_iload_n hx hb dMD_clear_54 rfl (lv_at hl 0 rfl) ?_
          refine lv_iconst (v := (-1)) hx hb dMD_clear_55 (by decide) ?_
          refine q_iast i X hD hP hS (by omega) (f113) (rfl) (by omega) (by decide) dMD_clear_56 (fun H locs hD hP hS => ?_)
          have hP : va_P D vwCl (wW 17 ad (va_up E96 16 (.inl (tc 0, 8, .inl (upd (C 16) i (-1)))))) H := hP
          have hD : va_D (Aw 17 ad) (wW 17 ad (va_up E96 16 (.inl (tc 0, 8, .inl (upd (C 16) i (-1)))))) := hD
          generalize g116 : va_up E96 16 (.inl (tc 0, 8, .inl (upd (C 16) i (-1)))) = E115 at hD hP
          have f117 : E115 0 = .inr (7, [.int 0, .int 0, .int ic, .ref (ad 1), .ref (ad 2), .ref (ad 3), .ref (ad 4), .ref (ad 5), .ref (ad 6), .ref (ad 7), .ref (ad 8), .ref (ad 9), .int 0, .ref (ad 10), .ref (ad 11), .ref (ad 12), .ref (ad 13), .ref (ad 14), .ref (ad 15), .ref (ad 16)]) := by rw [← g116, va_up_ne _ _ (by omega)]; exact f98
          have f118 : E115 1 = .inl (tc 0, 5, .inl (C 1)) := by rw [← g116, va_up_ne _ _ (by omega)]; exact f99
          have f119 : E115 2 = .inl (tc 0, 60, .inl (C 2)) := by rw [← g116, va_up_ne _ _ (by omega)]; exact f100
          have f120 : E115 3 = .inl (tc 0, 60, .inl (C 3)) := by rw [← g116, va_up_ne _ _ (by omega)]; exact f101
          have f121 : E115 4 = .inl (tc 0, 60, .inl (C 4)) := by rw [← g116, va_up_ne _ _ (by omega)]; exact f102
          have f122 : E115 5 = .inl (tc 0, 5, .inl (C 5)) := by rw [← g116, va_up_ne _ _ (by omega)]; exact f103
          have f123 : E115 6 = .inl (tc 0, 5, .inl (C 6)) := by rw [← g116, va_up_ne _ _ (by omega)]; exact f104
          have f124 : E115 7 = .inl (tc 0, 5, .inl (C 7)) := by rw [← g116, va_up_ne _ _ (by omega)]; exact f105
          have f125 : E115 8 = .inl (tc 0, 3, .inl (C 8)) := by rw [← g116, va_up_ne _ _ (by omega)]; exact f106
          have f126 : E115 9 = .inl (tc 0, 3, .inl (C 9)) := by rw [← g116, va_up_ne _ _ (by omega)]; exact f107
          have f127 : E115 10 = .inl (tc 0, 200, .inl (C 10)) := by rw [← g116, va_up_ne _ _ (by omega)]; exact f108
          have f128 : E115 11 = .inl (tc 0, 200, .inl (C 11)) := by rw [← g116, va_up_ne _ _ (by omega)]; exact f109
          have f129 : E115 12 = .inl (tc 0, 200, .inl (C 12)) := by rw [← g116, va_up_ne _ _ (by omega)]; exact f110
          have f130 : E115 13 = .inl (tc 2, 200, .inl (C 13)) := by rw [← g116, va_up_ne _ _ (by omega)]; exact f111
          have f131 : E115 15 = .inl (tc 0, 8, .inl (upd (C 15) i (-1))) := by rw [← g116, va_up_ne _ _ (by omega)]; exact f112
          have f132 : E115 16 = .inl (tc 0, 8, .inl (upd (C 16) i (-1))) := by rw [← g116]; exact va_up_self _ _ _
          have f133 : E115 14 = .inl (tc 1, 800, .inr (.inl J)) := by rw [← g116, va_up_ne _ _ (by omega)]; exact f114
          refine lv_iinc (k := 0) (v := nI (i + 1)) hx hb dMD_clear_57 hl rfl (nI_1 i) (by decide) rfl (fun ls hl => ?_)
          have hl : lv_has ls 2 [(1, .int (nI (i + 1))), (0, .ref (ad 0))] := hl
          refine lv_goto (tgt := 37) hx hb dMD_clear_60 rfl ?_
          exact ih (i + 1) (va_up (va_up C 15 (upd (C 15) i (-1))) 16 (upd (C 16) i (-1))) _ _ _ _ (by omega) ⟨f117, f118, f119, f120, f121, f122, f123, f124, f125, f126, f127, f128, f129, f130, f133, f131, f132⟩ q1 (fun j hj => by by_cases h : j = i; (· subst h; exact pk_us); (· exact (pk_un h).trans (q2 j (by omega)))) (fun j hj => by by_cases h : j = i; (· subst h; exact pk_us); (· exact (pk_un h).trans (q3 j (by omega)))) hD hP hS hl
      refine lv_iconst (v := 0) hx hb dMD_clear_35 (by decide) ?_
      refine lv_istore_n hx hb dMD_clear_36 rfl hl (by decide) rfl (fun ls hl => ?_)
      have hl : lv_has ls 2 [(1, .int 0), (0, .ref (ad 0))] := hl
      exact loop2 8 0 B _ _ _ _ (by omega) ⟨m0, m1, m2, m3, m4, m5, m6, m7, m8, m9, m10, m11, m12, m13, m14, m15, m16⟩ q1 (fun t h => absurd h (Nat.not_lt_zero t)) (fun t h => absurd h (Nat.not_lt_zero t)) hD hP hS hl
    | succ r ih =>
      intro i B H locs ls F hi hM q1 hD hP hS hl
      obtain ⟨m0, m1, m2, m3, m4, m5, m6, m7, m8, m9, m10, m11, m12, m13, m14, m15, m16⟩ := hM
      refine lv_iload_n hx hb dMD_clear_17 rfl (lv_at hl 0 rfl) ?_
      refine lv_iconst (v := 5) hx hb dMD_clear_18 (by decide) ?_
      refine lv_icmp_ge (tgt := 35) hx hb dMD_clear_19 rfl (fun h19 => absurd h19 (nI_ge (a := i) (b := 5) (by omega) (by omega))) (fun h19 => ?_)
      refine lv_aload_n hx hb dMD_clear_22 rfl (lv_at hl 1 rfl) ?_
      refine g_MD_7 X hP (by omega) (m0) rfl dMD_clear_23 ?_
      refine lv_iload_n hx hb dMD_clear_26 rfl (lv_at hl 0 rfl) ?_
      refine lv_iconst (v := 0) hx hb dMD_clear_27 (by decide) ?_
      refine q_iast i X hD hP hS (by omega) (m1) (rfl) (by omega) (by decide) dMD_clear_28 (fun H locs hD hP hS => ?_)
      have hP : va_P D vwCl (wW 17 ad (va_up F 1 (.inl (tc 0, 5, .inl (upd (B 1) i 0))))) H := hP
      have hD : va_D (Aw 17 ad) (wW 17 ad (va_up F 1 (.inl (tc 0, 5, .inl (upd (B 1) i 0))))) := hD
      generalize g135 : va_up F 1 (.inl (tc 0, 5, .inl (upd (B 1) i 0))) = E134 at hD hP
      have f136 : E134 0 = .inr (7, [.int 0, .int 0, .int ic, .ref (ad 1), .ref (ad 2), .ref (ad 3), .ref (ad 4), .ref (ad 5), .ref (ad 6), .ref (ad 7), .ref (ad 8), .ref (ad 9), .int 0, .ref (ad 10), .ref (ad 11), .ref (ad 12), .ref (ad 13), .ref (ad 14), .ref (ad 15), .ref (ad 16)]) := by rw [← g135, va_up_ne _ _ (by omega)]; exact m0
      have f137 : E134 1 = .inl (tc 0, 5, .inl (upd (B 1) i 0)) := by rw [← g135]; exact va_up_self _ _ _
      have f138 : E134 2 = .inl (tc 0, 60, .inl (B 2)) := by rw [← g135, va_up_ne _ _ (by omega)]; exact m2
      have f139 : E134 3 = .inl (tc 0, 60, .inl (B 3)) := by rw [← g135, va_up_ne _ _ (by omega)]; exact m3
      have f140 : E134 4 = .inl (tc 0, 60, .inl (B 4)) := by rw [← g135, va_up_ne _ _ (by omega)]; exact m4
      have f141 : E134 5 = .inl (tc 0, 5, .inl (B 5)) := by rw [← g135, va_up_ne _ _ (by omega)]; exact m5
      have f142 : E134 6 = .inl (tc 0, 5, .inl (B 6)) := by rw [← g135, va_up_ne _ _ (by omega)]; exact m6
      have f143 : E134 7 = .inl (tc 0, 5, .inl (B 7)) := by rw [← g135, va_up_ne _ _ (by omega)]; exact m7
      have f144 : E134 8 = .inl (tc 0, 3, .inl (B 8)) := by rw [← g135, va_up_ne _ _ (by omega)]; exact m8
      have f145 : E134 9 = .inl (tc 0, 3, .inl (B 9)) := by rw [← g135, va_up_ne _ _ (by omega)]; exact m9
      have f146 : E134 10 = .inl (tc 0, 200, .inl (B 10)) := by rw [← g135, va_up_ne _ _ (by omega)]; exact m10
      have f147 : E134 11 = .inl (tc 0, 200, .inl (B 11)) := by rw [← g135, va_up_ne _ _ (by omega)]; exact m11
      have f148 : E134 12 = .inl (tc 0, 200, .inl (B 12)) := by rw [← g135, va_up_ne _ _ (by omega)]; exact m12
      have f149 : E134 13 = .inl (tc 2, 200, .inl (B 13)) := by rw [← g135, va_up_ne _ _ (by omega)]; exact m13
      have f150 : E134 15 = .inl (tc 0, 8, .inl (B 15)) := by rw [← g135, va_up_ne _ _ (by omega)]; exact m15
      have f151 : E134 16 = .inl (tc 0, 8, .inl (B 16)) := by rw [← g135, va_up_ne _ _ (by omega)]; exact m16
      have f152 : E134 14 = .inl (tc 1, 800, .inr (.inl J)) := by rw [← g135, va_up_ne _ _ (by omega)]; exact m14
      refine lv_iinc (k := 0) (v := nI (i + 1)) hx hb dMD_clear_29 hl rfl (nI_1 i) (by decide) rfl (fun ls hl => ?_)
      have hl : lv_has ls 2 [(1, .int (nI (i + 1))), (0, .ref (ad 0))] := hl
      refine lv_goto (tgt := 17) hx hb dMD_clear_32 rfl ?_
      exact ih (i + 1) (va_up B 1 (upd (B 1) i 0)) _ _ _ _ (by omega) ⟨f136, f137, f138, f139, f140, f141, f142, f143, f144, f145, f146, f147, f148, f149, f152, f150, f151⟩ (fun j hj => by by_cases h : j = i; (· subst h; exact pk_us); (· exact (pk_un h).trans (q1 j (by omega)))) hD hP hS hl
  exact loop1 5 0 A _ _ _ _ (by omega) ⟨f41, f42, f43, f44, f45, f46, f47, f48, f49, f50, f51, f52, f53, f54, f57, f55, f56⟩ (fun t h => absurd h (Nat.not_lt_zero t)) hD hP hS hl
set_option maxHeartbeats 4000000 in
set_option maxRecDepth 100000 in
theorem c_MD_add (l : Launch) (D : va_G) (tc : Nat → ClassId) (ad : Nat → Nat) (E : Nat → va_E) (th st ic cn : Int32) (A : Nat → Nat → Int32) (J : Nat → Int64) (sz : Nat → Nat) (t op a b : Int32) (hM : isMD tc ad E th st ic cn A J) (hm : ∀ t, t < 5 → A 1 t = nI (sz t)) (hs : ∀ t, t < 5 → sz t ≤ 12) : Ct l D tc yMD_add 2 17 ad E [.ref (ad 0), .int t, .int op, .int a, .int b] (fun o E2 => o = .returned (some (.int (if addOk st sz t op a = true then nI (sz t.toNatClampNeg) else -1))) ∧ (addOk st sz t op a = false ∧ isMD tc ad E2 0 st ic cn A J ∨ addOk st sz t op a = true ∧ ∃ j, j < 5 ∧ t = nI j ∧ isMD tc ad E2 0 st ic cn (va_up (va_up (va_up (va_up A 2 (upd (A 2) (12 * j + sz j) op)) 3 (upd (A 3) (12 * j + sz j) a)) 4 (upd (A 4) (12 * j + sz j) b)) 1 (upd (A 1) j (nI (sz j + 1)))) J)) := by
  refine Ct.ofW (cc := cMD_add) (maxL := 6) (ret := (some .int)) (own := R_MD) (by decide) rfl w_548 (Nat.le_of_ble_eq_true rfl) ?_
  intro p e s m args below meth c ls X hlk hr hD hP hS hl
  have hx := X.1
  have hb := X.2.1
  have hl : lv_has ls 6 [(0, .ref (ad 0)), (1, .int t), (2, .int op), (3, .int a), (4, .int b)] := hl
  obtain ⟨m0, m1, m2, m3, m4, m5, m6, m7, m8, m9, m10, m11, m12, m13, m14, m15, m16⟩ := hM
  refine lv_aload_n hx hb dMD_add_0 rfl (lv_at hl 0 rfl) ?_
  refine lv_iconst (v := 0) hx hb dMD_add_1 (by decide) ?_
  refine p_MD_63 X hD hP hS (by omega) (m0) rfl rfl (Nat.le_of_ble_eq_true rfl) dMD_add_2 (fun H locs hD hP hS => ?_)
  have hP : va_P D vwCl (wW 17 ad (va_up E 0 (.inr (7, [.int 0, .int st, .int ic, .ref (ad 1), .ref (ad 2), .ref (ad 3), .ref (ad 4), .ref (ad 5), .ref (ad 6), .ref (ad 7), .ref (ad 8), .ref (ad 9), .int cn, .ref (ad 10), .ref (ad 11), .ref (ad 12), .ref (ad 13), .ref (ad 14), .ref (ad 15), .ref (ad 16)])))) H := hP
  have hD : va_D (Aw 17 ad) (wW 17 ad (va_up E 0 (.inr (7, [.int 0, .int st, .int ic, .ref (ad 1), .ref (ad 2), .ref (ad 3), .ref (ad 4), .ref (ad 5), .ref (ad 6), .ref (ad 7), .ref (ad 8), .ref (ad 9), .int cn, .ref (ad 10), .ref (ad 11), .ref (ad 12), .ref (ad 13), .ref (ad 14), .ref (ad 15), .ref (ad 16)])))) := hD
  generalize g2 : va_up E 0 (.inr (7, [.int 0, .int st, .int ic, .ref (ad 1), .ref (ad 2), .ref (ad 3), .ref (ad 4), .ref (ad 5), .ref (ad 6), .ref (ad 7), .ref (ad 8), .ref (ad 9), .int cn, .ref (ad 10), .ref (ad 11), .ref (ad 12), .ref (ad 13), .ref (ad 14), .ref (ad 15), .ref (ad 16)])) = E1 at hD hP
  have f3 : E1 0 = .inr (7, [.int 0, .int st, .int ic, .ref (ad 1), .ref (ad 2), .ref (ad 3), .ref (ad 4), .ref (ad 5), .ref (ad 6), .ref (ad 7), .ref (ad 8), .ref (ad 9), .int cn, .ref (ad 10), .ref (ad 11), .ref (ad 12), .ref (ad 13), .ref (ad 14), .ref (ad 15), .ref (ad 16)]) := by rw [← g2]; exact va_up_self _ _ _
  have f4 : E1 1 = .inl (tc 0, 5, .inl (A 1)) := by rw [← g2, va_up_ne _ _ (by omega)]; exact m1
  have f5 : E1 2 = .inl (tc 0, 60, .inl (A 2)) := by rw [← g2, va_up_ne _ _ (by omega)]; exact m2
  have f6 : E1 3 = .inl (tc 0, 60, .inl (A 3)) := by rw [← g2, va_up_ne _ _ (by omega)]; exact m3
  have f7 : E1 4 = .inl (tc 0, 60, .inl (A 4)) := by rw [← g2, va_up_ne _ _ (by omega)]; exact m4
  have f8 : E1 5 = .inl (tc 0, 5, .inl (A 5)) := by rw [← g2, va_up_ne _ _ (by omega)]; exact m5
  have f9 : E1 6 = .inl (tc 0, 5, .inl (A 6)) := by rw [← g2, va_up_ne _ _ (by omega)]; exact m6
  have f10 : E1 7 = .inl (tc 0, 5, .inl (A 7)) := by rw [← g2, va_up_ne _ _ (by omega)]; exact m7
  have f11 : E1 8 = .inl (tc 0, 3, .inl (A 8)) := by rw [← g2, va_up_ne _ _ (by omega)]; exact m8
  have f12 : E1 9 = .inl (tc 0, 3, .inl (A 9)) := by rw [← g2, va_up_ne _ _ (by omega)]; exact m9
  have f13 : E1 10 = .inl (tc 0, 200, .inl (A 10)) := by rw [← g2, va_up_ne _ _ (by omega)]; exact m10
  have f14 : E1 11 = .inl (tc 0, 200, .inl (A 11)) := by rw [← g2, va_up_ne _ _ (by omega)]; exact m11
  have f15 : E1 12 = .inl (tc 0, 200, .inl (A 12)) := by rw [← g2, va_up_ne _ _ (by omega)]; exact m12
  have f16 : E1 13 = .inl (tc 2, 200, .inl (A 13)) := by rw [← g2, va_up_ne _ _ (by omega)]; exact m13
  have f17 : E1 15 = .inl (tc 0, 8, .inl (A 15)) := by rw [← g2, va_up_ne _ _ (by omega)]; exact m15
  have f18 : E1 16 = .inl (tc 0, 8, .inl (A 16)) := by rw [← g2, va_up_ne _ _ (by omega)]; exact m16
  have f19 : E1 14 = .inl (tc 1, 800, .inr (.inl J)) := by rw [← g2, va_up_ne _ _ (by omega)]; exact m14
  refine lv_iload_n hx hb dMD_add_5 rfl (lv_at hl 1 rfl) ?_
  refine lv_iconst (v := 5) hx hb dMD_add_6 (by decide) ?_
  refine x_iE (f := fun k => 0 + k) (x_runS (As := [.int t, .int 5]) (rest := []) X (c_MD_within l D tc (fun k => ad (0 + k)) (fun k => E1 (0 + k)) t 5 (n := 5) (by decide)) rfl rfl (by decide) (by decide) w_551 w_9 w_549 w_550 ry_MD_within (ct_pre X hP hD (fr_lt 0 17 0 (by omega)) (fr_inj 0 0)) ct_blind hl.1 (Nat.le_of_ble_eq_true rfl) dMD_add_7 ⟨Nat.zero_le _, Nat.zero_le _⟩) hD hP hS (fr_lt 0 17 0 (by omega)) (fr_inj 0 0) (fun H locs hD hP hS => ?_)
  refine lv_if_eq (tgt := 48) hx hb dMD_add_10 rfl (fun h10 => ?_) (fun h10 => ?_)
  · refine lv_iconst (v := (-1)) hx hb dMD_add_48 (by decide) ?_
    exact q_iret X hlk hr hP hS dMD_add_49 (by have hok : addOk st sz t op a = false := (by simp [addOk, bi_f h10]); exact ⟨by rw [hok]; rfl, Or.inl ⟨hok, ⟨f3, f4, f5, f6, f7, f8, f9, f10, f11, f12, f13, f14, f15, f16, f19, f17, f18⟩⟩⟩)
  · obtain ⟨j, hj, rfl⟩ := wi_of (n := 5) (by decide) (bi_t h10)
    have hmj := hm j hj
    have hsj := hs j hj
    refine lv_aload_n hx hb dMD_add_13 rfl (lv_at hl 0 rfl) ?_
    refine g_MD_71 X hP (by omega) (f3) rfl dMD_add_14 ?_
    refine lv_if_ne (tgt := 48) hx hb dMD_add_17 rfl (fun h17 => ?_) (fun h17 => ?_)
    · refine lv_iconst (v := (-1)) hx hb dMD_add_48 (by decide) ?_
      exact q_iret X hlk hr hP hS dMD_add_49 (by have hok : addOk st sz (nI j) op a = false := (by simp [addOk, h17]); exact ⟨by rw [hok]; rfl, Or.inl ⟨hok, ⟨f3, f4, f5, f6, f7, f8, f9, f10, f11, f12, f13, f14, f15, f16, f19, f17, f18⟩⟩⟩)
    · refine lv_iload_n hx hb dMD_add_20 rfl (lv_at hl 2 rfl) ?_
      refine lv_bipush (v := 13) hx hb dMD_add_21 (by decide) ?_
      refine x_iE (f := fun k => 0 + k) (x_runS (As := [.int op, .int 13]) (rest := []) X (c_MD_within l D tc (fun k => ad (0 + k)) (fun k => E1 (0 + k)) op 13 (n := 13) (by decide)) rfl rfl (by decide) (by decide) w_551 w_9 w_549 w_550 ry_MD_within (ct_pre X hP hD (fr_lt 0 17 0 (by omega)) (fr_inj 0 0)) ct_blind hl.1 (Nat.le_of_ble_eq_true rfl) dMD_add_23 ⟨Nat.zero_le _, Nat.zero_le _⟩) hD hP hS (fr_lt 0 17 0 (by omega)) (fr_inj 0 0) (fun H locs hD hP hS => ?_)
      refine lv_if_eq (tgt := 48) hx hb dMD_add_26 rfl (fun h26 => ?_) (fun h26 => ?_)
      · refine lv_iconst (v := (-1)) hx hb dMD_add_48 (by decide) ?_
        exact q_iret X hlk hr hP hS dMD_add_49 (by have hok : addOk st sz (nI j) op a = false := (by simp [addOk, bi_f h26]); exact ⟨by rw [hok]; rfl, Or.inl ⟨hok, ⟨f3, f4, f5, f6, f7, f8, f9, f10, f11, f12, f13, f14, f15, f16, f19, f17, f18⟩⟩⟩)
      · refine lv_iload_n hx hb dMD_add_29 rfl (lv_at hl 2 rfl) ?_
        refine lv_iload_n hx hb dMD_add_30 rfl (lv_at hl 3 rfl) ?_
        refine x_iE (f := fun k => 0 + k) (x_runS (As := [.int op, .int a]) (rest := []) X (c_MD_names l D tc (fun k => ad (0 + k)) (fun k => E1 (0 + k)) op a) rfl rfl (by decide) (by decide) w_554 w_9 w_552 w_553 ry_MD_names (ct_pre X hP hD (fr_lt 0 17 0 (by omega)) (fr_inj 0 0)) ct_blind hl.1 (Nat.le_of_ble_eq_true rfl) dMD_add_31 ⟨Nat.zero_le _, Nat.zero_le _⟩) hD hP hS (fr_lt 0 17 0 (by omega)) (fr_inj 0 0) (fun H locs hD hP hS => ?_)
        refine lv_if_eq (tgt := 48) hx hb dMD_add_34 rfl (fun h34 => ?_) (fun h34 => ?_)
        · refine lv_iconst (v := (-1)) hx hb dMD_add_48 (by decide) ?_
          exact q_iret X hlk hr hP hS dMD_add_49 (by have hok : addOk st sz (nI j) op a = false := (by simp [addOk, bi_f h34]); exact ⟨by rw [hok]; rfl, Or.inl ⟨hok, ⟨f3, f4, f5, f6, f7, f8, f9, f10, f11, f12, f13, f14, f15, f16, f19, f17, f18⟩⟩⟩)
        · refine lv_aload_n hx hb dMD_add_37 rfl (lv_at hl 0 rfl) ?_
          refine g_MD_7 X hP (by omega) (f3) rfl dMD_add_38 ?_
          refine lv_iload_n hx hb dMD_add_41 rfl (lv_at hl 1 rfl) ?_
          refine q_iald j X hP (by omega) (f4) (rfl) (by omega) (by decide) dMD_add_42 ?_
          refine lv_bipush (v := 12) hx hb dMD_add_43 (by decide) ?_
          refine lv_icmp_ne (tgt := 50) hx hb dMD_add_45 rfl (fun h45 => ?_) (fun h45 => ?_)
          · have hlt : sz j < 12 := by rcases Nat.lt_or_ge (sz j) 12 with h | h; (· exact h); (· exact absurd (by rw [hmj, show sz j = 12 by omega]; rfl) h45)
            refine lv_bipush (v := 12) hx hb dMD_add_50 (by decide) ?_
            refine lv_iload_n hx hb dMD_add_52 rfl (lv_at hl 1 rfl) ?_
            refine lv_imul hx hb dMD_add_53 ?_
            rw [show (12 * (nI j)) = nI (12 * j) from pk_mul 12 j]
            refine lv_aload_n hx hb dMD_add_54 rfl (lv_at hl 0 rfl) ?_
            refine g_MD_7 X hP (by omega) (f3) rfl dMD_add_55 ?_
            refine lv_iload_n hx hb dMD_add_58 rfl (lv_at hl 1 rfl) ?_
            refine q_iald j X hP (by omega) (f4) (rfl) (by omega) (by decide) dMD_add_59 ?_
            refine lv_iadd hx hb dMD_add_60 ?_
            rw [show ((nI (12 * j)) + ((A 1) j)) = nI (12 * j + sz j) from by rw [hmj]; exact nI_add (12 * j) (sz j)]
            refine lv_istore hx hb dMD_add_61 hl (by decide) rfl (fun ls hl => ?_)
            have hl : lv_has ls 6 [(5, .int (nI (12 * j + sz j))), (0, .ref (ad 0)), (1, .int (nI j)), (2, .int op), (3, .int a), (4, .int b)] := hl
            refine lv_aload_n hx hb dMD_add_63 rfl (lv_at hl 1 rfl) ?_
            refine g_MD_13 X hP (by omega) (f3) rfl dMD_add_64 ?_
            refine lv_iload hx hb dMD_add_67 (lv_at hl 0 rfl) ?_
            refine lv_iload_n hx hb dMD_add_69 rfl (lv_at hl 3 rfl) ?_
            refine q_iast (12 * j + sz j) X hD hP hS (by omega) (f5) (rfl) (by omega) (by decide) dMD_add_70 (fun H locs hD hP hS => ?_)
            have hP : va_P D vwCl (wW 17 ad (va_up E1 2 (.inl (tc 0, 60, .inl (upd (A 2) (12 * j + sz j) op))))) H := hP
            have hD : va_D (Aw 17 ad) (wW 17 ad (va_up E1 2 (.inl (tc 0, 60, .inl (upd (A 2) (12 * j + sz j) op))))) := hD
            generalize g21 : va_up E1 2 (.inl (tc 0, 60, .inl (upd (A 2) (12 * j + sz j) op))) = E20 at hD hP
            have f22 : E20 0 = .inr (7, [.int 0, .int st, .int ic, .ref (ad 1), .ref (ad 2), .ref (ad 3), .ref (ad 4), .ref (ad 5), .ref (ad 6), .ref (ad 7), .ref (ad 8), .ref (ad 9), .int cn, .ref (ad 10), .ref (ad 11), .ref (ad 12), .ref (ad 13), .ref (ad 14), .ref (ad 15), .ref (ad 16)]) := by rw [← g21, va_up_ne _ _ (by omega)]; exact f3
            have f23 : E20 1 = .inl (tc 0, 5, .inl (A 1)) := by rw [← g21, va_up_ne _ _ (by omega)]; exact f4
            have f24 : E20 2 = .inl (tc 0, 60, .inl (upd (A 2) (12 * j + sz j) op)) := by rw [← g21]; exact va_up_self _ _ _
            have f25 : E20 3 = .inl (tc 0, 60, .inl (A 3)) := by rw [← g21, va_up_ne _ _ (by omega)]; exact f6
            have f26 : E20 4 = .inl (tc 0, 60, .inl (A 4)) := by rw [← g21, va_up_ne _ _ (by omega)]; exact f7
            have f27 : E20 5 = .inl (tc 0, 5, .inl (A 5)) := by rw [← g21, va_up_ne _ _ (by omega)]; exact f8
            have f28 : E20 6 = .inl (tc 0, 5, .inl (A 6)) := by rw [← g21, va_up_ne _ _ (by omega)]; exact f9
            have f29 : E20 7 = .inl (tc 0, 5, .inl (A 7)) := by rw [← g21, va_up_ne _ _ (by omega)]; exact f10
            have f30 : E20 8 = .inl (tc 0, 3, .inl (A 8)) := by rw [← g21, va_up_ne _ _ (by omega)]; exact f11
            have f31 : E20 9 = .inl (tc 0, 3, .inl (A 9)) := by rw [← g21, va_up_ne _ _ (by omega)]; exact f12
            have f32 : E20 10 = .inl (tc 0, 200, .inl (A 10)) := by rw [← g21, va_up_ne _ _ (by omega)]; exact f13
            have f33 : E20 11 = .inl (tc 0, 200, .inl (A 11)) := by rw [← g21, va_up_ne _ _ (by omega)]; exact f14
            have f34 : E20 12 = .inl (tc 0, 200, .inl (A 12)) := by rw [← g21, va_up_ne _ _ (by omega)]; exact f15
            have f35 : E20 13 = .inl (tc 2, 200, .inl (A 13)) := by rw [← g21, va_up_ne _ _ (by omega)]; exact f16
            have f36 : E20 15 = .inl (tc 0, 8, .inl (A 15)) := by rw [← g21, va_up_ne _ _ (by omega)]; exact f17
            have f37 : E20 16 = .inl (tc 0, 8, .inl (A 16)) := by rw [← g21, va_up_ne _ _ (by omega)]; exact f18
            have f38 : E20 14 = .inl (tc 1, 800, .inr (.inl J)) := by rw [← g21, va_up_ne _ _ (by omega)]; exact f19
            refine lv_aload_n hx hb dMD_add_71 rfl (lv_at hl 1 rfl) ?_
            refine g_MD_16 X hP (by omega) (f22) rfl dMD_add_72 ?_
            refine lv_iload hx hb dMD_add_75 (lv_at hl 0 rfl) ?_
            refine lv_iload_n hx hb dMD_add_77 rfl (lv_at hl 4 rfl) ?_
            refine q_iast (12 * j + sz j) X hD hP hS (by omega) (f25) (rfl) (by omega) (by decide) dMD_add_78 (fun H locs hD hP hS => ?_)
            have hP : va_P D vwCl (wW 17 ad (va_up E20 3 (.inl (tc 0, 60, .inl (upd (A 3) (12 * j + sz j) a))))) H := hP
            have hD : va_D (Aw 17 ad) (wW 17 ad (va_up E20 3 (.inl (tc 0, 60, .inl (upd (A 3) (12 * j + sz j) a))))) := hD
            generalize g40 : va_up E20 3 (.inl (tc 0, 60, .inl (upd (A 3) (12 * j + sz j) a))) = E39 at hD hP
            have f41 : E39 0 = .inr (7, [.int 0, .int st, .int ic, .ref (ad 1), .ref (ad 2), .ref (ad 3), .ref (ad 4), .ref (ad 5), .ref (ad 6), .ref (ad 7), .ref (ad 8), .ref (ad 9), .int cn, .ref (ad 10), .ref (ad 11), .ref (ad 12), .ref (ad 13), .ref (ad 14), .ref (ad 15), .ref (ad 16)]) := by rw [← g40, va_up_ne _ _ (by omega)]; exact f22
            have f42 : E39 1 = .inl (tc 0, 5, .inl (A 1)) := by rw [← g40, va_up_ne _ _ (by omega)]; exact f23
            have f43 : E39 2 = .inl (tc 0, 60, .inl (upd (A 2) (12 * j + sz j) op)) := by rw [← g40, va_up_ne _ _ (by omega)]; exact f24
            have f44 : E39 3 = .inl (tc 0, 60, .inl (upd (A 3) (12 * j + sz j) a)) := by rw [← g40]; exact va_up_self _ _ _
            have f45 : E39 4 = .inl (tc 0, 60, .inl (A 4)) := by rw [← g40, va_up_ne _ _ (by omega)]; exact f26
            have f46 : E39 5 = .inl (tc 0, 5, .inl (A 5)) := by rw [← g40, va_up_ne _ _ (by omega)]; exact f27
            have f47 : E39 6 = .inl (tc 0, 5, .inl (A 6)) := by rw [← g40, va_up_ne _ _ (by omega)]; exact f28
            have f48 : E39 7 = .inl (tc 0, 5, .inl (A 7)) := by rw [← g40, va_up_ne _ _ (by omega)]; exact f29
            have f49 : E39 8 = .inl (tc 0, 3, .inl (A 8)) := by rw [← g40, va_up_ne _ _ (by omega)]; exact f30
            have f50 : E39 9 = .inl (tc 0, 3, .inl (A 9)) := by rw [← g40, va_up_ne _ _ (by omega)]; exact f31
            have f51 : E39 10 = .inl (tc 0, 200, .inl (A 10)) := by rw [← g40, va_up_ne _ _ (by omega)]; exact f32
            have f52 : E39 11 = .inl (tc 0, 200, .inl (A 11)) := by rw [← g40, va_up_ne _ _ (by omega)]; exact f33
            have f53 : E39 12 = .inl (tc 0, 200, .inl (A 12)) := by rw [← g40, va_up_ne _ _ (by omega)]; exact f34
            have f54 : E39 13 = .inl (tc 2, 200, .inl (A 13)) := by rw [← g40, va_up_ne _ _ (by omega)]; exact f35
            have f55 : E39 15 = .inl (tc 0, 8, .inl (A 15)) := by rw [← g40, va_up_ne _ _ (by omega)]; exact f36
            have f56 : E39 16 = .inl (tc 0, 8, .inl (A 16)) := by rw [← g40, va_up_ne _ _ (by omega)]; exact f37
            have f57 : E39 14 = .inl (tc 1, 800, .inr (.inl J)) := by rw [← g40, va_up_ne _ _ (by omega)]; exact f38
            refine lv_aload_n hx hb dMD_add_79 rfl (lv_at hl 1 rfl) ?_
            refine g_MD_19 X hP (by omega) (f41) rfl dMD_add_80 ?_
            refine lv_iload hx hb dMD_add_83 (lv_at hl 0 rfl) ?_
            refine lv_iload hx hb dMD_add_85 (lv_at hl 5 rfl) ?_
            refine q_iast (12 * j + sz j) X hD hP hS (by omega) (f45) (rfl) (by omega) (by decide) dMD_add_87 (fun H locs hD hP hS => ?_)
            have hP : va_P D vwCl (wW 17 ad (va_up E39 4 (.inl (tc 0, 60, .inl (upd (A 4) (12 * j + sz j) b))))) H := hP
            have hD : va_D (Aw 17 ad) (wW 17 ad (va_up E39 4 (.inl (tc 0, 60, .inl (upd (A 4) (12 * j + sz j) b))))) := hD
            generalize g59 : va_up E39 4 (.inl (tc 0, 60, .inl (upd (A 4) (12 * j + sz j) b))) = E58 at hD hP
            have f60 : E58 0 = .inr (7, [.int 0, .int st, .int ic, .ref (ad 1), .ref (ad 2), .ref (ad 3), .ref (ad 4), .ref (ad 5), .ref (ad 6), .ref (ad 7), .ref (ad 8), .ref (ad 9), .int cn, .ref (ad 10), .ref (ad 11), .ref (ad 12), .ref (ad 13), .ref (ad 14), .ref (ad 15), .ref (ad 16)]) := by rw [← g59, va_up_ne _ _ (by omega)]; exact f41
            have f61 : E58 1 = .inl (tc 0, 5, .inl (A 1)) := by rw [← g59, va_up_ne _ _ (by omega)]; exact f42
            have f62 : E58 2 = .inl (tc 0, 60, .inl (upd (A 2) (12 * j + sz j) op)) := by rw [← g59, va_up_ne _ _ (by omega)]; exact f43
            have f63 : E58 3 = .inl (tc 0, 60, .inl (upd (A 3) (12 * j + sz j) a)) := by rw [← g59, va_up_ne _ _ (by omega)]; exact f44
            have f64 : E58 4 = .inl (tc 0, 60, .inl (upd (A 4) (12 * j + sz j) b)) := by rw [← g59]; exact va_up_self _ _ _
            have f65 : E58 5 = .inl (tc 0, 5, .inl (A 5)) := by rw [← g59, va_up_ne _ _ (by omega)]; exact f46
            have f66 : E58 6 = .inl (tc 0, 5, .inl (A 6)) := by rw [← g59, va_up_ne _ _ (by omega)]; exact f47
            have f67 : E58 7 = .inl (tc 0, 5, .inl (A 7)) := by rw [← g59, va_up_ne _ _ (by omega)]; exact f48
            have f68 : E58 8 = .inl (tc 0, 3, .inl (A 8)) := by rw [← g59, va_up_ne _ _ (by omega)]; exact f49
            have f69 : E58 9 = .inl (tc 0, 3, .inl (A 9)) := by rw [← g59, va_up_ne _ _ (by omega)]; exact f50
            have f70 : E58 10 = .inl (tc 0, 200, .inl (A 10)) := by rw [← g59, va_up_ne _ _ (by omega)]; exact f51
            have f71 : E58 11 = .inl (tc 0, 200, .inl (A 11)) := by rw [← g59, va_up_ne _ _ (by omega)]; exact f52
            have f72 : E58 12 = .inl (tc 0, 200, .inl (A 12)) := by rw [← g59, va_up_ne _ _ (by omega)]; exact f53
            have f73 : E58 13 = .inl (tc 2, 200, .inl (A 13)) := by rw [← g59, va_up_ne _ _ (by omega)]; exact f54
            have f74 : E58 15 = .inl (tc 0, 8, .inl (A 15)) := by rw [← g59, va_up_ne _ _ (by omega)]; exact f55
            have f75 : E58 16 = .inl (tc 0, 8, .inl (A 16)) := by rw [← g59, va_up_ne _ _ (by omega)]; exact f56
            have f76 : E58 14 = .inl (tc 1, 800, .inr (.inl J)) := by rw [← g59, va_up_ne _ _ (by omega)]; exact f57
            refine lv_aload_n hx hb dMD_add_88 rfl (lv_at hl 1 rfl) ?_
            refine g_MD_7 X hP (by omega) (f60) rfl dMD_add_89 ?_
            refine lv_iload_n hx hb dMD_add_92 rfl (lv_at hl 2 rfl) ?_
            refine lv_dup2_11 hx hb dMD_add_93 rfl rfl ?_
            refine q_iald j X hP (by omega) (f61) (rfl) (by omega) (by decide) dMD_add_94 ?_
            refine lv_iconst (v := 1) hx hb dMD_add_95 (by decide) ?_
            refine lv_iadd hx hb dMD_add_96 ?_
            rw [show (((A 1) j) + 1) = nI (sz j + 1) from by rw [hmj]; exact nI_1 (sz j)]
            refine q_iast j X hD hP hS (by omega) (f61) (rfl) (by omega) (by decide) dMD_add_97 (fun H locs hD hP hS => ?_)
            have hP : va_P D vwCl (wW 17 ad (va_up E58 1 (.inl (tc 0, 5, .inl (upd (A 1) j (nI (sz j + 1))))))) H := hP
            have hD : va_D (Aw 17 ad) (wW 17 ad (va_up E58 1 (.inl (tc 0, 5, .inl (upd (A 1) j (nI (sz j + 1))))))) := hD
            generalize g78 : va_up E58 1 (.inl (tc 0, 5, .inl (upd (A 1) j (nI (sz j + 1))))) = E77 at hD hP
            have f79 : E77 0 = .inr (7, [.int 0, .int st, .int ic, .ref (ad 1), .ref (ad 2), .ref (ad 3), .ref (ad 4), .ref (ad 5), .ref (ad 6), .ref (ad 7), .ref (ad 8), .ref (ad 9), .int cn, .ref (ad 10), .ref (ad 11), .ref (ad 12), .ref (ad 13), .ref (ad 14), .ref (ad 15), .ref (ad 16)]) := by rw [← g78, va_up_ne _ _ (by omega)]; exact f60
            have f80 : E77 1 = .inl (tc 0, 5, .inl (upd (A 1) j (nI (sz j + 1)))) := by rw [← g78]; exact va_up_self _ _ _
            have f81 : E77 2 = .inl (tc 0, 60, .inl (upd (A 2) (12 * j + sz j) op)) := by rw [← g78, va_up_ne _ _ (by omega)]; exact f62
            have f82 : E77 3 = .inl (tc 0, 60, .inl (upd (A 3) (12 * j + sz j) a)) := by rw [← g78, va_up_ne _ _ (by omega)]; exact f63
            have f83 : E77 4 = .inl (tc 0, 60, .inl (upd (A 4) (12 * j + sz j) b)) := by rw [← g78, va_up_ne _ _ (by omega)]; exact f64
            have f84 : E77 5 = .inl (tc 0, 5, .inl (A 5)) := by rw [← g78, va_up_ne _ _ (by omega)]; exact f65
            have f85 : E77 6 = .inl (tc 0, 5, .inl (A 6)) := by rw [← g78, va_up_ne _ _ (by omega)]; exact f66
            have f86 : E77 7 = .inl (tc 0, 5, .inl (A 7)) := by rw [← g78, va_up_ne _ _ (by omega)]; exact f67
            have f87 : E77 8 = .inl (tc 0, 3, .inl (A 8)) := by rw [← g78, va_up_ne _ _ (by omega)]; exact f68
            have f88 : E77 9 = .inl (tc 0, 3, .inl (A 9)) := by rw [← g78, va_up_ne _ _ (by omega)]; exact f69
            have f89 : E77 10 = .inl (tc 0, 200, .inl (A 10)) := by rw [← g78, va_up_ne _ _ (by omega)]; exact f70
            have f90 : E77 11 = .inl (tc 0, 200, .inl (A 11)) := by rw [← g78, va_up_ne _ _ (by omega)]; exact f71
            have f91 : E77 12 = .inl (tc 0, 200, .inl (A 12)) := by rw [← g78, va_up_ne _ _ (by omega)]; exact f72
            have f92 : E77 13 = .inl (tc 2, 200, .inl (A 13)) := by rw [← g78, va_up_ne _ _ (by omega)]; exact f73
            have f93 : E77 15 = .inl (tc 0, 8, .inl (A 15)) := by rw [← g78, va_up_ne _ _ (by omega)]; exact f74
            have f94 : E77 16 = .inl (tc 0, 8, .inl (A 16)) := by rw [← g78, va_up_ne _ _ (by omega)]; exact f75
            have f95 : E77 14 = .inl (tc 1, 800, .inr (.inl J)) := by rw [← g78, va_up_ne _ _ (by omega)]; exact f76
            refine lv_aload_n hx hb dMD_add_98 rfl (lv_at hl 1 rfl) ?_
            refine g_MD_7 X hP (by omega) (f79) rfl dMD_add_99 ?_
            refine lv_iload_n hx hb dMD_add_102 rfl (lv_at hl 2 rfl) ?_
            refine q_iald j X hP (by omega) (f80) (rfl) (by omega) (by decide) dMD_add_103 ?_
            refine lv_iconst (v := 1) hx hb dMD_add_104 (by decide) ?_
            refine lv_isub hx hb dMD_add_105 ?_
            exact q_iret X hlk hr hP hS dMD_add_106 (by have hok : addOk st sz (nI j) op a = true := (by simp [addOk, h17, nI_clamp (show j < 2 ^ 31 by omega), hlt, wi_nI hj (show 5 < 2 ^ 31 by decide), bi_t h26, bi_t h34]); exact ⟨by rw [if_pos hok, nI_clamp (by omega), pk_us]; exact congrArg (fun z => Outcome.returned (some (Value.int z))) (nI_pred (sz j)), Or.inr ⟨hok, j, hj, rfl, ⟨f79, f80, f81, f82, f83, f84, f85, f86, f87, f88, f89, f90, f91, f92, f95, f93, f94⟩⟩⟩)
          · have h12 : sz j = 12 := (nI_eq (by omega) (by decide)).mp (hmj.symm.trans h45)
            refine lv_iconst (v := (-1)) hx hb dMD_add_48 (by decide) ?_
            exact q_iret X hlk hr hP hS dMD_add_49 (by have hok : addOk st sz (nI j) op a = false := (by simp [addOk, nI_clamp (show j < 2 ^ 31 by omega), h12]); exact ⟨by rw [hok]; rfl, Or.inl ⟨hok, ⟨f3, f4, f5, f6, f7, f8, f9, f10, f11, f12, f13, f14, f15, f16, f19, f17, f18⟩⟩⟩)
end
section
theorem dMD_state_0 : decode cMD_state 0 = .ok (.aload_n 0, 1) := by decide +kernel
theorem dMD_state_1 : decode cMD_state 1 = .ok (.iconst 0, 1) := by decide +kernel
theorem dMD_state_2 : decode cMD_state 2 = .ok (.putfield 63, 3) := by decide +kernel
theorem dMD_state_5 : decode cMD_state 5 = .ok (.aload_n 0, 1) := by decide +kernel
theorem dMD_state_6 : decode cMD_state 6 = .ok (.getfield 71, 3) := by decide +kernel
theorem dMD_state_9 : decode cMD_state 9 = .ok (.ifCond .eq 42, 3) := by decide +kernel
theorem dMD_state_12 : decode cMD_state 12 = .ok (.iload_n 1, 1) := by decide +kernel
theorem dMD_state_13 : decode cMD_state 13 = .ok (.iconst 5, 1) := by decide +kernel
theorem dMD_state_14 : decode cMD_state 14 = .ok (.invokestatic 67, 3) := by decide +kernel
theorem dMD_state_17 : decode cMD_state 17 = .ok (.ifCond .eq 34, 3) := by decide +kernel
theorem dMD_state_20 : decode cMD_state 20 = .ok (.aload_n 0, 1) := by decide +kernel
theorem dMD_state_21 : decode cMD_state 21 = .ok (.getfield 22, 3) := by decide +kernel
theorem dMD_state_24 : decode cMD_state 24 = .ok (.iload_n 1, 1) := by decide +kernel
theorem dMD_state_25 : decode cMD_state 25 = .ok (.iaload, 1) := by decide +kernel
theorem dMD_state_26 : decode cMD_state 26 = .ok (.iconst 4, 1) := by decide +kernel
theorem dMD_state_27 : decode cMD_state 27 = .ok (.aload_n 0, 1) := by decide +kernel
theorem dMD_state_28 : decode cMD_state 28 = .ok (.getfield 25, 3) := by decide +kernel
theorem dMD_state_31 : decode cMD_state 31 = .ok (.iload_n 1, 1) := by decide +kernel
theorem dMD_state_32 : decode cMD_state 32 = .ok (.iaload, 1) := by decide +kernel
theorem dMD_state_33 : decode cMD_state 33 = .ok (.imul, 1) := by decide +kernel
theorem dMD_state_34 : decode cMD_state 34 = .ok (.iadd, 1) := by decide +kernel
theorem dMD_state_35 : decode cMD_state 35 = .ok (.i2l, 1) := by decide +kernel
theorem dMD_state_36 : decode cMD_state 36 = .ok (.ldc2_w 134, 3) := by decide +kernel
theorem dMD_state_39 : decode cMD_state 39 = .ok (.aload_n 0, 1) := by decide +kernel
theorem dMD_state_40 : decode cMD_state 40 = .ok (.getfield 28, 3) := by decide +kernel
theorem dMD_state_43 : decode cMD_state 43 = .ok (.iload_n 1, 1) := by decide +kernel
theorem dMD_state_44 : decode cMD_state 44 = .ok (.iaload, 1) := by decide +kernel
theorem dMD_state_45 : decode cMD_state 45 = .ok (.i2l, 1) := by decide +kernel
theorem dMD_state_46 : decode cMD_state 46 = .ok (.lmul, 1) := by decide +kernel
theorem dMD_state_47 : decode cMD_state 47 = .ok (.ladd, 1) := by decide +kernel
theorem dMD_state_48 : decode cMD_state 48 = .ok (.goto 6, 3) := by decide +kernel
theorem dMD_state_51 : decode cMD_state 51 = .ok (.ldc2_w 136, 3) := by decide +kernel
theorem dMD_state_54 : decode cMD_state 54 = .ok (.lreturn, 1) := by decide +kernel
theorem dMD_events_0 : decode cMD_events 0 = .ok (.aload_n 0, 1) := by decide +kernel
theorem dMD_events_1 : decode cMD_events 1 = .ok (.iconst 0, 1) := by decide +kernel
theorem dMD_events_2 : decode cMD_events 2 = .ok (.putfield 63, 3) := by decide +kernel
theorem dMD_events_5 : decode cMD_events 5 = .ok (.aload_n 0, 1) := by decide +kernel
theorem dMD_events_6 : decode cMD_events 6 = .ok (.getfield 78, 3) := by decide +kernel
theorem dMD_events_9 : decode cMD_events 9 = .ok (.ireturn, 1) := by decide +kernel
theorem dMD_event_0 : decode cMD_event 0 = .ok (.aload_n 0, 1) := by decide +kernel
theorem dMD_event_1 : decode cMD_event 1 = .ok (.iconst 0, 1) := by decide +kernel
theorem dMD_event_2 : decode cMD_event 2 = .ok (.putfield 63, 3) := by decide +kernel
theorem dMD_event_5 : decode cMD_event 5 = .ok (.iload_n 1, 1) := by decide +kernel
theorem dMD_event_6 : decode cMD_event 6 = .ok (.aload_n 0, 1) := by decide +kernel
theorem dMD_event_7 : decode cMD_event 7 = .ok (.getfield 78, 3) := by decide +kernel
theorem dMD_event_10 : decode cMD_event 10 = .ok (.invokestatic 67, 3) := by decide +kernel
theorem dMD_event_13 : decode cMD_event 13 = .ok (.ifCond .eq 33, 3) := by decide +kernel
theorem dMD_event_16 : decode cMD_event 16 = .ok (.aload_n 0, 1) := by decide +kernel
theorem dMD_event_17 : decode cMD_event 17 = .ok (.getfield 37, 3) := by decide +kernel
theorem dMD_event_20 : decode cMD_event 20 = .ok (.iload_n 1, 1) := by decide +kernel
theorem dMD_event_21 : decode cMD_event 21 = .ok (.iaload, 1) := by decide +kernel
theorem dMD_event_22 : decode cMD_event 22 = .ok (.bipush 8, 2) := by decide +kernel
theorem dMD_event_24 : decode cMD_event 24 = .ok (.aload_n 0, 1) := by decide +kernel
theorem dMD_event_25 : decode cMD_event 25 = .ok (.getfield 40, 3) := by decide +kernel
theorem dMD_event_28 : decode cMD_event 28 = .ok (.iload_n 1, 1) := by decide +kernel
theorem dMD_event_29 : decode cMD_event 29 = .ok (.iaload, 1) := by decide +kernel
theorem dMD_event_30 : decode cMD_event 30 = .ok (.imul, 1) := by decide +kernel
theorem dMD_event_31 : decode cMD_event 31 = .ok (.iadd, 1) := by decide +kernel
theorem dMD_event_32 : decode cMD_event 32 = .ok (.sipush 128, 3) := by decide +kernel
theorem dMD_event_35 : decode cMD_event 35 = .ok (.aload_n 0, 1) := by decide +kernel
theorem dMD_event_36 : decode cMD_event 36 = .ok (.getfield 43, 3) := by decide +kernel
theorem dMD_event_39 : decode cMD_event 39 = .ok (.iload_n 1, 1) := by decide +kernel
theorem dMD_event_40 : decode cMD_event 40 = .ok (.iaload, 1) := by decide +kernel
theorem dMD_event_41 : decode cMD_event 41 = .ok (.imul, 1) := by decide +kernel
theorem dMD_event_42 : decode cMD_event 42 = .ok (.iadd, 1) := by decide +kernel
theorem dMD_event_43 : decode cMD_event 43 = .ok (.goto 4, 3) := by decide +kernel
theorem dMD_event_46 : decode cMD_event 46 = .ok (.iconst (-1), 1) := by decide +kernel
theorem dMD_event_47 : decode cMD_event 47 = .ok (.ireturn, 1) := by decide +kernel
theorem dMD_before_0 : decode cMD_before 0 = .ok (.aload_n 0, 1) := by decide +kernel
theorem dMD_before_1 : decode cMD_before 1 = .ok (.iconst 0, 1) := by decide +kernel
theorem dMD_before_2 : decode cMD_before 2 = .ok (.putfield 63, 3) := by decide +kernel
theorem dMD_before_5 : decode cMD_before 5 = .ok (.iload_n 1, 1) := by decide +kernel
theorem dMD_before_6 : decode cMD_before 6 = .ok (.aload_n 0, 1) := by decide +kernel
theorem dMD_before_7 : decode cMD_before 7 = .ok (.getfield 78, 3) := by decide +kernel
theorem dMD_before_10 : decode cMD_before 10 = .ok (.invokestatic 67, 3) := by decide +kernel
theorem dMD_before_13 : decode cMD_before 13 = .ok (.ifCond .eq 27, 3) := by decide +kernel
theorem dMD_before_16 : decode cMD_before 16 = .ok (.iload_n 2, 1) := by decide +kernel
theorem dMD_before_17 : decode cMD_before 17 = .ok (.aload_n 0, 1) := by decide +kernel
theorem dMD_before_18 : decode cMD_before 18 = .ok (.getfield 78, 3) := by decide +kernel
theorem dMD_before_21 : decode cMD_before 21 = .ok (.invokestatic 67, 3) := by decide +kernel
theorem dMD_before_24 : decode cMD_before 24 = .ok (.ifCond .eq 16, 3) := by decide +kernel
theorem dMD_before_27 : decode cMD_before 27 = .ok (.aload_n 0, 1) := by decide +kernel
theorem dMD_before_28 : decode cMD_before 28 = .ok (.iload_n 1, 1) := by decide +kernel
theorem dMD_before_29 : decode cMD_before 29 = .ok (.iload_n 2, 1) := by decide +kernel
theorem dMD_before_30 : decode cMD_before 30 = .ok (.invokevirtual 127, 3) := by decide +kernel
theorem dMD_before_33 : decode cMD_before 33 = .ok (.ifCond .eq 7, 3) := by decide +kernel
theorem dMD_before_36 : decode cMD_before 36 = .ok (.iconst 1, 1) := by decide +kernel
theorem dMD_before_37 : decode cMD_before 37 = .ok (.goto 4, 3) := by decide +kernel
theorem dMD_before_40 : decode cMD_before 40 = .ok (.iconst 0, 1) := by decide +kernel
theorem dMD_before_41 : decode cMD_before 41 = .ok (.ireturn, 1) := by decide +kernel
theorem dMD_holder_0 : decode cMD_holder 0 = .ok (.aload_n 0, 1) := by decide +kernel
theorem dMD_holder_1 : decode cMD_holder 1 = .ok (.iconst 0, 1) := by decide +kernel
theorem dMD_holder_2 : decode cMD_holder 2 = .ok (.putfield 63, 3) := by decide +kernel
theorem dMD_holder_5 : decode cMD_holder 5 = .ok (.iload_n 1, 1) := by decide +kernel
theorem dMD_holder_6 : decode cMD_holder 6 = .ok (.iconst 3, 1) := by decide +kernel
theorem dMD_holder_7 : decode cMD_holder 7 = .ok (.invokestatic 67, 3) := by decide +kernel
theorem dMD_holder_10 : decode cMD_holder 10 = .ok (.ifCond .eq 31, 3) := by decide +kernel
theorem dMD_holder_13 : decode cMD_holder 13 = .ok (.aload_n 0, 1) := by decide +kernel
theorem dMD_holder_14 : decode cMD_holder 14 = .ok (.getfield 31, 3) := by decide +kernel
theorem dMD_holder_17 : decode cMD_holder 17 = .ok (.iload_n 1, 1) := by decide +kernel
theorem dMD_holder_18 : decode cMD_holder 18 = .ok (.iaload, 1) := by decide +kernel
theorem dMD_holder_19 : decode cMD_holder 19 = .ok (.ifCond .lt 22, 3) := by decide +kernel
theorem dMD_holder_22 : decode cMD_holder 22 = .ok (.aload_n 0, 1) := by decide +kernel
theorem dMD_holder_23 : decode cMD_holder 23 = .ok (.getfield 31, 3) := by decide +kernel
theorem dMD_holder_26 : decode cMD_holder 26 = .ok (.iload_n 1, 1) := by decide +kernel
theorem dMD_holder_27 : decode cMD_holder 27 = .ok (.iaload, 1) := by decide +kernel
theorem dMD_holder_28 : decode cMD_holder 28 = .ok (.bipush 8, 2) := by decide +kernel
theorem dMD_holder_30 : decode cMD_holder 30 = .ok (.aload_n 0, 1) := by decide +kernel
theorem dMD_holder_31 : decode cMD_holder 31 = .ok (.getfield 34, 3) := by decide +kernel
theorem dMD_holder_34 : decode cMD_holder 34 = .ok (.iload_n 1, 1) := by decide +kernel
theorem dMD_holder_35 : decode cMD_holder 35 = .ok (.iaload, 1) := by decide +kernel
theorem dMD_holder_36 : decode cMD_holder 36 = .ok (.imul, 1) := by decide +kernel
theorem dMD_holder_37 : decode cMD_holder 37 = .ok (.iadd, 1) := by decide +kernel
theorem dMD_holder_38 : decode cMD_holder 38 = .ok (.goto 4, 3) := by decide +kernel
theorem dMD_holder_41 : decode cMD_holder 41 = .ok (.iconst (-1), 1) := by decide +kernel
theorem dMD_holder_42 : decode cMD_holder 42 = .ok (.ireturn, 1) := by decide +kernel
theorem dMD_race_0 : decode cMD_race 0 = .ok (.aload_n 0, 1) := by decide +kernel
theorem dMD_race_1 : decode cMD_race 1 = .ok (.iconst 0, 1) := by decide +kernel
theorem dMD_race_2 : decode cMD_race 2 = .ok (.putfield 63, 3) := by decide +kernel
theorem dMD_race_5 : decode cMD_race 5 = .ok (.iload_n 1, 1) := by decide +kernel
theorem dMD_race_6 : decode cMD_race 6 = .ok (.bipush 8, 2) := by decide +kernel
theorem dMD_race_8 : decode cMD_race 8 = .ok (.invokestatic 67, 3) := by decide +kernel
theorem dMD_race_11 : decode cMD_race 11 = .ok (.ifCond .eq 12, 3) := by decide +kernel
theorem dMD_race_14 : decode cMD_race 14 = .ok (.aload_n 0, 1) := by decide +kernel
theorem dMD_race_15 : decode cMD_race 15 = .ok (.getfield 54, 3) := by decide +kernel
theorem dMD_race_18 : decode cMD_race 18 = .ok (.iload_n 1, 1) := by decide +kernel
theorem dMD_race_19 : decode cMD_race 19 = .ok (.iaload, 1) := by decide +kernel
theorem dMD_race_20 : decode cMD_race 20 = .ok (.goto 4, 3) := by decide +kernel
theorem dMD_race_23 : decode cMD_race 23 = .ok (.iconst (-1), 1) := by decide +kernel
theorem dMD_race_24 : decode cMD_race 24 = .ok (.ireturn, 1) := by decide +kernel
theorem dMD_partner_0 : decode cMD_partner 0 = .ok (.aload_n 0, 1) := by decide +kernel
theorem dMD_partner_1 : decode cMD_partner 1 = .ok (.iconst 0, 1) := by decide +kernel
theorem dMD_partner_2 : decode cMD_partner 2 = .ok (.putfield 63, 3) := by decide +kernel
theorem dMD_partner_5 : decode cMD_partner 5 = .ok (.iload_n 1, 1) := by decide +kernel
theorem dMD_partner_6 : decode cMD_partner 6 = .ok (.bipush 8, 2) := by decide +kernel
theorem dMD_partner_8 : decode cMD_partner 8 = .ok (.invokestatic 67, 3) := by decide +kernel
theorem dMD_partner_11 : decode cMD_partner 11 = .ok (.ifCond .eq 12, 3) := by decide +kernel
theorem dMD_partner_14 : decode cMD_partner 14 = .ok (.aload_n 0, 1) := by decide +kernel
theorem dMD_partner_15 : decode cMD_partner 15 = .ok (.getfield 57, 3) := by decide +kernel
theorem dMD_partner_18 : decode cMD_partner 18 = .ok (.iload_n 1, 1) := by decide +kernel
theorem dMD_partner_19 : decode cMD_partner 19 = .ok (.iaload, 1) := by decide +kernel
theorem dMD_partner_20 : decode cMD_partner 20 = .ok (.goto 4, 3) := by decide +kernel
theorem dMD_partner_23 : decode cMD_partner 23 = .ok (.iconst (-1), 1) := by decide +kernel
theorem dMD_partner_24 : decode cMD_partner 24 = .ok (.ireturn, 1) := by decide +kernel
theorem dMD_races_0 : decode cMD_races 0 = .ok (.aload_n 0, 1) := by decide +kernel
theorem dMD_races_1 : decode cMD_races 1 = .ok (.iconst 0, 1) := by decide +kernel
theorem dMD_races_2 : decode cMD_races 2 = .ok (.putfield 63, 3) := by decide +kernel
theorem dMD_races_5 : decode cMD_races 5 = .ok (.iconst 0, 1) := by decide +kernel
theorem dMD_races_6 : decode cMD_races 6 = .ok (.istore_n 1, 1) := by decide +kernel
theorem dMD_races_7 : decode cMD_races 7 = .ok (.iconst 0, 1) := by decide +kernel
theorem dMD_races_8 : decode cMD_races 8 = .ok (.istore_n 2, 1) := by decide +kernel
theorem dMD_races_9 : decode cMD_races 9 = .ok (.iload_n 2, 1) := by decide +kernel
theorem dMD_races_10 : decode cMD_races 10 = .ok (.bipush 8, 2) := by decide +kernel
theorem dMD_races_12 : decode cMD_races 12 = .ok (.if_icmp .ge 26, 3) := by decide +kernel
theorem dMD_races_15 : decode cMD_races 15 = .ok (.aload_n 0, 1) := by decide +kernel
theorem dMD_races_16 : decode cMD_races 16 = .ok (.getfield 54, 3) := by decide +kernel
theorem dMD_races_19 : decode cMD_races 19 = .ok (.iload_n 2, 1) := by decide +kernel
theorem dMD_races_20 : decode cMD_races 20 = .ok (.iaload, 1) := by decide +kernel
theorem dMD_races_21 : decode cMD_races 21 = .ok (.ifCond .lt 9, 3) := by decide +kernel
theorem dMD_races_24 : decode cMD_races 24 = .ok (.iload_n 1, 1) := by decide +kernel
theorem dMD_races_25 : decode cMD_races 25 = .ok (.iconst 1, 1) := by decide +kernel
theorem dMD_races_26 : decode cMD_races 26 = .ok (.iadd, 1) := by decide +kernel
theorem dMD_races_27 : decode cMD_races 27 = .ok (.goto 4, 3) := by decide +kernel
theorem dMD_races_30 : decode cMD_races 30 = .ok (.iload_n 1, 1) := by decide +kernel
theorem dMD_races_31 : decode cMD_races 31 = .ok (.istore_n 1, 1) := by decide +kernel
theorem dMD_races_32 : decode cMD_races 32 = .ok (.iinc 2 1, 3) := by decide +kernel
theorem dMD_races_35 : decode cMD_races 35 = .ok (.goto (-26), 3) := by decide +kernel
theorem dMD_races_38 : decode cMD_races 38 = .ok (.iload_n 1, 1) := by decide +kernel
theorem dMD_races_39 : decode cMD_races 39 = .ok (.ireturn, 1) := by decide +kernel
theorem dMD_again_0 : decode cMD_again 0 = .ok (.aload_n 0, 1) := by decide +kernel
theorem dMD_again_1 : decode cMD_again 1 = .ok (.iconst 0, 1) := by decide +kernel
theorem dMD_again_2 : decode cMD_again 2 = .ok (.putfield 63, 3) := by decide +kernel
theorem dMD_again_5 : decode cMD_again 5 = .ok (.iload_n 1, 1) := by decide +kernel
theorem dMD_again_6 : decode cMD_again 6 = .ok (.ifCond .lt 11, 3) := by decide +kernel
theorem dMD_again_9 : decode cMD_again 9 = .ok (.iload_n 1, 1) := by decide +kernel
theorem dMD_again_10 : decode cMD_again 10 = .ok (.aload_n 0, 1) := by decide +kernel
theorem dMD_again_11 : decode cMD_again 11 = .ok (.getfield 78, 3) := by decide +kernel
theorem dMD_again_14 : decode cMD_again 14 = .ok (.if_icmp .le 5, 3) := by decide +kernel
theorem dMD_again_17 : decode cMD_again 17 = .ok (.iconst (-1), 1) := by decide +kernel
theorem dMD_again_18 : decode cMD_again 18 = .ok (.ireturn, 1) := by decide +kernel
theorem dMD_again_19 : decode cMD_again 19 = .ok (.iconst 0, 1) := by decide +kernel
theorem dMD_again_20 : decode cMD_again 20 = .ok (.istore_n 3, 1) := by decide +kernel
theorem dMD_again_21 : decode cMD_again 21 = .ok (.iconst 0, 1) := by decide +kernel
theorem dMD_again_22 : decode cMD_again 22 = .ok (.istore 4, 2) := by decide +kernel
theorem dMD_again_24 : decode cMD_again 24 = .ok (.iload 4, 2) := by decide +kernel
theorem dMD_again_26 : decode cMD_again 26 = .ok (.iload_n 1, 1) := by decide +kernel
theorem dMD_again_27 : decode cMD_again 27 = .ok (.if_icmp .ge 54, 3) := by decide +kernel
theorem dMD_again_30 : decode cMD_again 30 = .ok (.aload_n 0, 1) := by decide +kernel
theorem dMD_again_31 : decode cMD_again 31 = .ok (.iload 4, 2) := by decide +kernel
theorem dMD_again_33 : decode cMD_again 33 = .ok (.invokevirtual 120, 3) := by decide +kernel
theorem dMD_again_36 : decode cMD_again 36 = .ok (.ifCond .eq 39, 3) := by decide +kernel
theorem dMD_again_39 : decode cMD_again 39 = .ok (.iload_n 3, 1) := by decide +kernel
theorem dMD_again_40 : decode cMD_again 40 = .ok (.aload_n 0, 1) := by decide +kernel
theorem dMD_again_41 : decode cMD_again 41 = .ok (.iload 4, 2) := by decide +kernel
theorem dMD_again_43 : decode cMD_again 43 = .ok (.iload_n 2, 1) := by decide +kernel
theorem dMD_again_44 : decode cMD_again 44 = .ok (.invokevirtual 109, 3) := by decide +kernel
theorem dMD_again_47 : decode cMD_again 47 = .ok (.ishr, 1) := by decide +kernel
theorem dMD_again_48 : decode cMD_again 48 = .ok (.iconst 1, 1) := by decide +kernel
theorem dMD_again_49 : decode cMD_again 49 = .ok (.iand, 1) := by decide +kernel
theorem dMD_again_50 : decode cMD_again 50 = .ok (.ifCond .ne 25, 3) := by decide +kernel
theorem dMD_again_53 : decode cMD_again 53 = .ok (.aload_n 0, 1) := by decide +kernel
theorem dMD_again_54 : decode cMD_again 54 = .ok (.iload 4, 2) := by decide +kernel
theorem dMD_again_56 : decode cMD_again 56 = .ok (.iload_n 2, 1) := by decide +kernel
theorem dMD_again_57 : decode cMD_again 57 = .ok (.invokevirtual 113, 3) := by decide +kernel
theorem dMD_again_60 : decode cMD_again 60 = .ok (.ifCond .eq 15, 3) := by decide +kernel
theorem dMD_again_63 : decode cMD_again 63 = .ok (.iload_n 3, 1) := by decide +kernel
theorem dMD_again_64 : decode cMD_again 64 = .ok (.iconst 1, 1) := by decide +kernel
theorem dMD_again_65 : decode cMD_again 65 = .ok (.aload_n 0, 1) := by decide +kernel
theorem dMD_again_66 : decode cMD_again 66 = .ok (.iload 4, 2) := by decide +kernel
theorem dMD_again_68 : decode cMD_again 68 = .ok (.iload_n 2, 1) := by decide +kernel
theorem dMD_again_69 : decode cMD_again 69 = .ok (.invokevirtual 109, 3) := by decide +kernel
theorem dMD_again_72 : decode cMD_again 72 = .ok (.ishl, 1) := by decide +kernel
theorem dMD_again_73 : decode cMD_again 73 = .ok (.ior, 1) := by decide +kernel
theorem dMD_again_74 : decode cMD_again 74 = .ok (.istore_n 3, 1) := by decide +kernel
theorem dMD_again_75 : decode cMD_again 75 = .ok (.iinc 4 1, 3) := by decide +kernel
theorem dMD_again_78 : decode cMD_again 78 = .ok (.goto (-54), 3) := by decide +kernel
theorem dMD_again_81 : decode cMD_again 81 = .ok (.iload_n 3, 1) := by decide +kernel
theorem dMD_again_82 : decode cMD_again 82 = .ok (.ireturn, 1) := by decide +kernel
theorem dMD_isBad_0 : decode cMD_isBad 0 = .ok (.aload_n 0, 1) := by decide +kernel
theorem dMD_isBad_1 : decode cMD_isBad 1 = .ok (.getfield 7, 3) := by decide +kernel
theorem dMD_isBad_4 : decode cMD_isBad 4 = .ok (.iconst 0, 1) := by decide +kernel
theorem dMD_isBad_5 : decode cMD_isBad 5 = .ok (.iaload, 1) := by decide +kernel
theorem dMD_isBad_6 : decode cMD_isBad 6 = .ok (.ifCond .ne 7, 3) := by decide +kernel
theorem dMD_isBad_9 : decode cMD_isBad 9 = .ok (.iconst 1, 1) := by decide +kernel
theorem dMD_isBad_10 : decode cMD_isBad 10 = .ok (.goto 4, 3) := by decide +kernel
theorem dMD_isBad_13 : decode cMD_isBad 13 = .ok (.iconst 0, 1) := by decide +kernel
theorem dMD_isBad_14 : decode cMD_isBad 14 = .ok (.istore_n 1, 1) := by decide +kernel
theorem dMD_isBad_15 : decode cMD_isBad 15 = .ok (.iconst 0, 1) := by decide +kernel
theorem dMD_isBad_16 : decode cMD_isBad 16 = .ok (.istore_n 2, 1) := by decide +kernel
theorem dMD_isBad_17 : decode cMD_isBad 17 = .ok (.iload_n 2, 1) := by decide +kernel
theorem dMD_isBad_18 : decode cMD_isBad 18 = .ok (.iconst 5, 1) := by decide +kernel
theorem dMD_isBad_19 : decode cMD_isBad 19 = .ok (.if_icmp .ge 140, 3) := by decide +kernel
theorem dMD_isBad_22 : decode cMD_isBad 22 = .ok (.iconst 0, 1) := by decide +kernel
theorem dMD_isBad_23 : decode cMD_isBad 23 = .ok (.istore_n 3, 1) := by decide +kernel
theorem dMD_isBad_24 : decode cMD_isBad 24 = .ok (.iload_n 3, 1) := by decide +kernel
theorem dMD_isBad_25 : decode cMD_isBad 25 = .ok (.aload_n 0, 1) := by decide +kernel
theorem dMD_isBad_26 : decode cMD_isBad 26 = .ok (.getfield 7, 3) := by decide +kernel
theorem dMD_isBad_29 : decode cMD_isBad 29 = .ok (.iload_n 2, 1) := by decide +kernel
theorem dMD_isBad_30 : decode cMD_isBad 30 = .ok (.iaload, 1) := by decide +kernel
theorem dMD_isBad_31 : decode cMD_isBad 31 = .ok (.if_icmp .ge 122, 3) := by decide +kernel
theorem dMD_isBad_34 : decode cMD_isBad 34 = .ok (.bipush 12, 2) := by decide +kernel
theorem dMD_isBad_36 : decode cMD_isBad 36 = .ok (.iload_n 2, 1) := by decide +kernel
theorem dMD_isBad_37 : decode cMD_isBad 37 = .ok (.imul, 1) := by decide +kernel
theorem dMD_isBad_38 : decode cMD_isBad 38 = .ok (.iload_n 3, 1) := by decide +kernel
theorem dMD_isBad_39 : decode cMD_isBad 39 = .ok (.iadd, 1) := by decide +kernel
theorem dMD_isBad_40 : decode cMD_isBad 40 = .ok (.istore 4, 2) := by decide +kernel
theorem dMD_isBad_42 : decode cMD_isBad 42 = .ok (.aload_n 0, 1) := by decide +kernel
theorem dMD_isBad_43 : decode cMD_isBad 43 = .ok (.getfield 13, 3) := by decide +kernel
theorem dMD_isBad_46 : decode cMD_isBad 46 = .ok (.iload 4, 2) := by decide +kernel
theorem dMD_isBad_48 : decode cMD_isBad 48 = .ok (.iaload, 1) := by decide +kernel
theorem dMD_isBad_49 : decode cMD_isBad 49 = .ok (.bipush 12, 2) := by decide +kernel
theorem dMD_isBad_51 : decode cMD_isBad 51 = .ok (.if_icmp .ne 21, 3) := by decide +kernel
theorem dMD_isBad_54 : decode cMD_isBad 54 = .ok (.aload_n 0, 1) := by decide +kernel
theorem dMD_isBad_55 : decode cMD_isBad 55 = .ok (.getfield 19, 3) := by decide +kernel
theorem dMD_isBad_58 : decode cMD_isBad 58 = .ok (.iload 4, 2) := by decide +kernel
theorem dMD_isBad_60 : decode cMD_isBad 60 = .ok (.iaload, 1) := by decide +kernel
theorem dMD_isBad_61 : decode cMD_isBad 61 = .ok (.iload_n 3, 1) := by decide +kernel
theorem dMD_isBad_62 : decode cMD_isBad 62 = .ok (.invokestatic 67, 3) := by decide +kernel
theorem dMD_isBad_65 : decode cMD_isBad 65 = .ok (.ifCond .ne 7, 3) := by decide +kernel
theorem dMD_isBad_68 : decode cMD_isBad 68 = .ok (.iconst 1, 1) := by decide +kernel
theorem dMD_isBad_69 : decode cMD_isBad 69 = .ok (.goto 4, 3) := by decide +kernel
theorem dMD_isBad_72 : decode cMD_isBad 72 = .ok (.iconst 0, 1) := by decide +kernel
theorem dMD_isBad_73 : decode cMD_isBad 73 = .ok (.istore 5, 2) := by decide +kernel
theorem dMD_isBad_75 : decode cMD_isBad 75 = .ok (.aload_n 0, 1) := by decide +kernel
theorem dMD_isBad_76 : decode cMD_isBad 76 = .ok (.getfield 13, 3) := by decide +kernel
theorem dMD_isBad_79 : decode cMD_isBad 79 = .ok (.iload 4, 2) := by decide +kernel
theorem dMD_isBad_81 : decode cMD_isBad 81 = .ok (.iaload, 1) := by decide +kernel
theorem dMD_isBad_82 : decode cMD_isBad 82 = .ok (.bipush 6, 2) := by decide +kernel
theorem dMD_isBad_84 : decode cMD_isBad 84 = .ok (.if_icmp .eq 15, 3) := by decide +kernel
theorem dMD_isBad_87 : decode cMD_isBad 87 = .ok (.aload_n 0, 1) := by decide +kernel
theorem dMD_isBad_88 : decode cMD_isBad 88 = .ok (.getfield 13, 3) := by decide +kernel
theorem dMD_isBad_91 : decode cMD_isBad 91 = .ok (.iload 4, 2) := by decide +kernel
theorem dMD_isBad_93 : decode cMD_isBad 93 = .ok (.iaload, 1) := by decide +kernel
theorem dMD_isBad_94 : decode cMD_isBad 94 = .ok (.bipush 7, 2) := by decide +kernel
theorem dMD_isBad_96 : decode cMD_isBad 96 = .ok (.if_icmp .ne 28, 3) := by decide +kernel
theorem dMD_isBad_99 : decode cMD_isBad 99 = .ok (.aload_n 0, 1) := by decide +kernel
theorem dMD_isBad_100 : decode cMD_isBad 100 = .ok (.getfield 16, 3) := by decide +kernel
theorem dMD_isBad_103 : decode cMD_isBad 103 = .ok (.iload 4, 2) := by decide +kernel
theorem dMD_isBad_105 : decode cMD_isBad 105 = .ok (.iaload, 1) := by decide +kernel
theorem dMD_isBad_106 : decode cMD_isBad 106 = .ok (.iload_n 2, 1) := by decide +kernel
theorem dMD_isBad_107 : decode cMD_isBad 107 = .ok (.if_icmp .eq 13, 3) := by decide +kernel
theorem dMD_isBad_110 : decode cMD_isBad 110 = .ok (.aload_n 0, 1) := by decide +kernel
theorem dMD_isBad_111 : decode cMD_isBad 111 = .ok (.getfield 16, 3) := by decide +kernel
theorem dMD_isBad_114 : decode cMD_isBad 114 = .ok (.iload 4, 2) := by decide +kernel
theorem dMD_isBad_116 : decode cMD_isBad 116 = .ok (.iaload, 1) := by decide +kernel
theorem dMD_isBad_117 : decode cMD_isBad 117 = .ok (.ifCond .ne 7, 3) := by decide +kernel
theorem dMD_isBad_120 : decode cMD_isBad 120 = .ok (.iconst 1, 1) := by decide +kernel
theorem dMD_isBad_121 : decode cMD_isBad 121 = .ok (.goto 4, 3) := by decide +kernel
theorem dMD_isBad_124 : decode cMD_isBad 124 = .ok (.iconst 0, 1) := by decide +kernel
theorem dMD_isBad_125 : decode cMD_isBad 125 = .ok (.istore 6, 2) := by decide +kernel
theorem dMD_isBad_127 : decode cMD_isBad 127 = .ok (.iload_n 1, 1) := by decide +kernel
theorem dMD_isBad_128 : decode cMD_isBad 128 = .ok (.ifCond .ne 13, 3) := by decide +kernel
theorem dMD_isBad_131 : decode cMD_isBad 131 = .ok (.iload 5, 2) := by decide +kernel
theorem dMD_isBad_133 : decode cMD_isBad 133 = .ok (.ifCond .ne 8, 3) := by decide +kernel
theorem dMD_isBad_136 : decode cMD_isBad 136 = .ok (.iload 6, 2) := by decide +kernel
theorem dMD_isBad_138 : decode cMD_isBad 138 = .ok (.ifCond .eq 7, 3) := by decide +kernel
theorem dMD_isBad_141 : decode cMD_isBad 141 = .ok (.iconst 1, 1) := by decide +kernel
theorem dMD_isBad_142 : decode cMD_isBad 142 = .ok (.goto 4, 3) := by decide +kernel
theorem dMD_isBad_145 : decode cMD_isBad 145 = .ok (.iconst 0, 1) := by decide +kernel
theorem dMD_isBad_146 : decode cMD_isBad 146 = .ok (.istore_n 1, 1) := by decide +kernel
theorem dMD_isBad_147 : decode cMD_isBad 147 = .ok (.iinc 3 1, 3) := by decide +kernel
theorem dMD_isBad_150 : decode cMD_isBad 150 = .ok (.goto (-126), 3) := by decide +kernel
theorem dMD_isBad_153 : decode cMD_isBad 153 = .ok (.iinc 2 1, 3) := by decide +kernel
theorem dMD_isBad_156 : decode cMD_isBad 156 = .ok (.goto (-139), 3) := by decide +kernel
theorem dMD_isBad_159 : decode cMD_isBad 159 = .ok (.iload_n 1, 1) := by decide +kernel
theorem dMD_isBad_160 : decode cMD_isBad 160 = .ok (.ireturn, 1) := by decide +kernel
theorem dMD_start_0 : decode cMD_start 0 = .ok (.aload_n 0, 1) := by decide +kernel
theorem dMD_start_1 : decode cMD_start 1 = .ok (.getfield 71, 3) := by decide +kernel
theorem dMD_start_4 : decode cMD_start 4 = .ok (.ifCond .eq 9, 3) := by decide +kernel
theorem dMD_start_7 : decode cMD_start 7 = .ok (.aload_n 0, 1) := by decide +kernel
theorem dMD_start_8 : decode cMD_start 8 = .ok (.iconst 1, 1) := by decide +kernel
theorem dMD_start_9 : decode cMD_start 9 = .ok (.invokevirtual 81, 3) := by decide +kernel
theorem dMD_start_12 : decode cMD_start 12 = .ok (.ireturn, 1) := by decide +kernel
theorem dMD_start_13 : decode cMD_start 13 = .ok (.aload_n 0, 1) := by decide +kernel
theorem dMD_start_14 : decode cMD_start 14 = .ok (.invokevirtual 85, 3) := by decide +kernel
theorem dMD_start_17 : decode cMD_start 17 = .ok (.ifCond .eq 9, 3) := by decide +kernel
theorem dMD_start_20 : decode cMD_start 20 = .ok (.aload_n 0, 1) := by decide +kernel
theorem dMD_start_21 : decode cMD_start 21 = .ok (.iconst 2, 1) := by decide +kernel
theorem dMD_start_22 : decode cMD_start 22 = .ok (.invokevirtual 81, 3) := by decide +kernel
theorem dMD_start_25 : decode cMD_start 25 = .ok (.ireturn, 1) := by decide +kernel
theorem dMD_start_26 : decode cMD_start 26 = .ok (.aload_n 0, 1) := by decide +kernel
theorem dMD_start_27 : decode cMD_start 27 = .ok (.iconst 0, 1) := by decide +kernel
theorem dMD_start_28 : decode cMD_start 28 = .ok (.putfield 63, 3) := by decide +kernel
theorem dMD_start_31 : decode cMD_start 31 = .ok (.aload_n 0, 1) := by decide +kernel
theorem dMD_start_32 : decode cMD_start 32 = .ok (.iconst 1, 1) := by decide +kernel
theorem dMD_start_33 : decode cMD_start 33 = .ok (.putfield 71, 3) := by decide +kernel
theorem dMD_start_36 : decode cMD_start 36 = .ok (.aload_n 0, 1) := by decide +kernel
theorem dMD_start_37 : decode cMD_start 37 = .ok (.iload_n 1, 1) := by decide +kernel
theorem dMD_start_38 : decode cMD_start 38 = .ok (.putfield 89, 3) := by decide +kernel
theorem dMD_start_41 : decode cMD_start 41 = .ok (.iconst 0, 1) := by decide +kernel
theorem dMD_start_42 : decode cMD_start 42 = .ok (.istore_n 2, 1) := by decide +kernel
theorem dMD_start_43 : decode cMD_start 43 = .ok (.iconst 0, 1) := by decide +kernel
theorem dMD_start_44 : decode cMD_start 44 = .ok (.istore_n 3, 1) := by decide +kernel
theorem dMD_start_45 : decode cMD_start 45 = .ok (.iload_n 3, 1) := by decide +kernel
theorem dMD_start_46 : decode cMD_start 46 = .ok (.iconst 5, 1) := by decide +kernel
theorem dMD_start_47 : decode cMD_start 47 = .ok (.if_icmp .ge 47, 3) := by decide +kernel
theorem dMD_start_50 : decode cMD_start 50 = .ok (.aload_n 0, 1) := by decide +kernel
theorem dMD_start_51 : decode cMD_start 51 = .ok (.getfield 22, 3) := by decide +kernel
theorem dMD_start_54 : decode cMD_start 54 = .ok (.iload_n 3, 1) := by decide +kernel
theorem dMD_start_55 : decode cMD_start 55 = .ok (.iload_n 3, 1) := by decide +kernel
theorem dMD_start_56 : decode cMD_start 56 = .ok (.ifCond .ne 7, 3) := by decide +kernel
theorem dMD_start_59 : decode cMD_start 59 = .ok (.iconst 1, 1) := by decide +kernel
theorem dMD_start_60 : decode cMD_start 60 = .ok (.goto 4, 3) := by decide +kernel
theorem dMD_start_63 : decode cMD_start 63 = .ok (.iconst 0, 1) := by decide +kernel
theorem dMD_start_64 : decode cMD_start 64 = .ok (.iastore, 1) := by decide +kernel
theorem dMD_start_65 : decode cMD_start 65 = .ok (.aload_n 0, 1) := by decide +kernel
theorem dMD_start_66 : decode cMD_start 66 = .ok (.getfield 25, 3) := by decide +kernel
theorem dMD_start_69 : decode cMD_start 69 = .ok (.iload_n 3, 1) := by decide +kernel
theorem dMD_start_70 : decode cMD_start 70 = .ok (.iconst 0, 1) := by decide +kernel
theorem dMD_start_71 : decode cMD_start 71 = .ok (.iastore, 1) := by decide +kernel
theorem dMD_start_72 : decode cMD_start 72 = .ok (.aload_n 0, 1) := by decide +kernel
theorem dMD_start_73 : decode cMD_start 73 = .ok (.getfield 28, 3) := by decide +kernel
theorem dMD_start_76 : decode cMD_start 76 = .ok (.iload_n 3, 1) := by decide +kernel
theorem dMD_start_77 : decode cMD_start 77 = .ok (.iconst 0, 1) := by decide +kernel
theorem dMD_start_78 : decode cMD_start 78 = .ok (.iastore, 1) := by decide +kernel
theorem dMD_start_79 : decode cMD_start 79 = .ok (.iload_n 2, 1) := by decide +kernel
theorem dMD_start_80 : decode cMD_start 80 = .ok (.aload_n 0, 1) := by decide +kernel
theorem dMD_start_81 : decode cMD_start 81 = .ok (.getfield 7, 3) := by decide +kernel
theorem dMD_start_84 : decode cMD_start 84 = .ok (.iload_n 3, 1) := by decide +kernel
theorem dMD_start_85 : decode cMD_start 85 = .ok (.iaload, 1) := by decide +kernel
theorem dMD_start_86 : decode cMD_start 86 = .ok (.iadd, 1) := by decide +kernel
theorem dMD_start_87 : decode cMD_start 87 = .ok (.istore_n 2, 1) := by decide +kernel
theorem dMD_start_88 : decode cMD_start 88 = .ok (.iinc 3 1, 3) := by decide +kernel
theorem dMD_start_91 : decode cMD_start 91 = .ok (.goto (-46), 3) := by decide +kernel
theorem dMD_start_94 : decode cMD_start 94 = .ok (.iload_n 2, 1) := by decide +kernel
theorem dMD_start_95 : decode cMD_start 95 = .ok (.ireturn, 1) := by decide +kernel
theorem dMD_step_0 : decode cMD_step 0 = .ok (.iload_n 1, 1) := by decide +kernel
theorem dMD_step_1 : decode cMD_step 1 = .ok (.iconst 5, 1) := by decide +kernel
theorem dMD_step_2 : decode cMD_step 2 = .ok (.invokestatic 67, 3) := by decide +kernel
theorem dMD_step_5 : decode cMD_step 5 = .ok (.ifCond .ne 9, 3) := by decide +kernel
theorem dMD_step_8 : decode cMD_step 8 = .ok (.aload_n 0, 1) := by decide +kernel
theorem dMD_step_9 : decode cMD_step 9 = .ok (.iconst 1, 1) := by decide +kernel
theorem dMD_step_10 : decode cMD_step 10 = .ok (.invokevirtual 81, 3) := by decide +kernel
theorem dMD_step_13 : decode cMD_step 13 = .ok (.ireturn, 1) := by decide +kernel
theorem dMD_step_14 : decode cMD_step 14 = .ok (.aload_n 0, 1) := by decide +kernel
theorem dMD_step_15 : decode cMD_step 15 = .ok (.getfield 71, 3) := by decide +kernel
theorem dMD_step_18 : decode cMD_step 18 = .ok (.ifCond .eq 13, 3) := by decide +kernel
theorem dMD_step_21 : decode cMD_step 21 = .ok (.aload_n 0, 1) := by decide +kernel
theorem dMD_step_22 : decode cMD_step 22 = .ok (.getfield 22, 3) := by decide +kernel
theorem dMD_step_25 : decode cMD_step 25 = .ok (.iload_n 1, 1) := by decide +kernel
theorem dMD_step_26 : decode cMD_step 26 = .ok (.iaload, 1) := by decide +kernel
theorem dMD_step_27 : decode cMD_step 27 = .ok (.iconst 1, 1) := by decide +kernel
theorem dMD_step_28 : decode cMD_step 28 = .ok (.if_icmp .eq 9, 3) := by decide +kernel
theorem dMD_step_31 : decode cMD_step 31 = .ok (.aload_n 0, 1) := by decide +kernel
theorem dMD_step_32 : decode cMD_step 32 = .ok (.iconst 2, 1) := by decide +kernel
theorem dMD_step_33 : decode cMD_step 33 = .ok (.invokevirtual 81, 3) := by decide +kernel
theorem dMD_step_36 : decode cMD_step 36 = .ok (.ireturn, 1) := by decide +kernel
theorem dMD_step_37 : decode cMD_step 37 = .ok (.bipush 12, 2) := by decide +kernel
theorem dMD_step_39 : decode cMD_step 39 = .ok (.iload_n 1, 1) := by decide +kernel
theorem dMD_step_40 : decode cMD_step 40 = .ok (.imul, 1) := by decide +kernel
theorem dMD_step_41 : decode cMD_step 41 = .ok (.aload_n 0, 1) := by decide +kernel
theorem dMD_step_42 : decode cMD_step 42 = .ok (.getfield 25, 3) := by decide +kernel
theorem dMD_step_45 : decode cMD_step 45 = .ok (.iload_n 1, 1) := by decide +kernel
theorem dMD_step_46 : decode cMD_step 46 = .ok (.iaload, 1) := by decide +kernel
theorem dMD_step_47 : decode cMD_step 47 = .ok (.iadd, 1) := by decide +kernel
theorem dMD_step_48 : decode cMD_step 48 = .ok (.istore_n 2, 1) := by decide +kernel
theorem dMD_step_49 : decode cMD_step 49 = .ok (.aload_n 0, 1) := by decide +kernel
theorem dMD_step_50 : decode cMD_step 50 = .ok (.getfield 13, 3) := by decide +kernel
theorem dMD_step_53 : decode cMD_step 53 = .ok (.iload_n 2, 1) := by decide +kernel
theorem dMD_step_54 : decode cMD_step 54 = .ok (.iaload, 1) := by decide +kernel
theorem dMD_step_55 : decode cMD_step 55 = .ok (.istore_n 3, 1) := by decide +kernel
theorem dMD_step_56 : decode cMD_step 56 = .ok (.aload_n 0, 1) := by decide +kernel
theorem dMD_step_57 : decode cMD_step 57 = .ok (.getfield 16, 3) := by decide +kernel
theorem dMD_step_60 : decode cMD_step 60 = .ok (.iload_n 2, 1) := by decide +kernel
theorem dMD_step_61 : decode cMD_step 61 = .ok (.iaload, 1) := by decide +kernel
theorem dMD_step_62 : decode cMD_step 62 = .ok (.istore 4, 2) := by decide +kernel
theorem dMD_step_64 : decode cMD_step 64 = .ok (.iload_n 3, 1) := by decide +kernel
theorem dMD_step_65 : decode cMD_step 65 = .ok (.iconst 3, 1) := by decide +kernel
theorem dMD_step_66 : decode cMD_step 66 = .ok (.if_icmp .ne 14, 3) := by decide +kernel
theorem dMD_step_69 : decode cMD_step 69 = .ok (.aload_n 0, 1) := by decide +kernel
theorem dMD_step_70 : decode cMD_step 70 = .ok (.getfield 31, 3) := by decide +kernel
theorem dMD_step_73 : decode cMD_step 73 = .ok (.iload 4, 2) := by decide +kernel
theorem dMD_step_75 : decode cMD_step 75 = .ok (.iaload, 1) := by decide +kernel
theorem dMD_step_76 : decode cMD_step 76 = .ok (.iload_n 1, 1) := by decide +kernel
theorem dMD_step_77 : decode cMD_step 77 = .ok (.if_icmp .ne 35, 3) := by decide +kernel
theorem dMD_step_80 : decode cMD_step 80 = .ok (.iload_n 3, 1) := by decide +kernel
theorem dMD_step_81 : decode cMD_step 81 = .ok (.bipush 6, 2) := by decide +kernel
theorem dMD_step_83 : decode cMD_step 83 = .ok (.if_icmp .ne 13, 3) := by decide +kernel
theorem dMD_step_86 : decode cMD_step 86 = .ok (.aload_n 0, 1) := by decide +kernel
theorem dMD_step_87 : decode cMD_step 87 = .ok (.getfield 22, 3) := by decide +kernel
theorem dMD_step_90 : decode cMD_step 90 = .ok (.iload 4, 2) := by decide +kernel
theorem dMD_step_92 : decode cMD_step 92 = .ok (.iaload, 1) := by decide +kernel
theorem dMD_step_93 : decode cMD_step 93 = .ok (.ifCond .ne 19, 3) := by decide +kernel
theorem dMD_step_96 : decode cMD_step 96 = .ok (.iload_n 3, 1) := by decide +kernel
theorem dMD_step_97 : decode cMD_step 97 = .ok (.bipush 7, 2) := by decide +kernel
theorem dMD_step_99 : decode cMD_step 99 = .ok (.if_icmp .ne 19, 3) := by decide +kernel
theorem dMD_step_102 : decode cMD_step 102 = .ok (.aload_n 0, 1) := by decide +kernel
theorem dMD_step_103 : decode cMD_step 103 = .ok (.getfield 22, 3) := by decide +kernel
theorem dMD_step_106 : decode cMD_step 106 = .ok (.iload 4, 2) := by decide +kernel
theorem dMD_step_108 : decode cMD_step 108 = .ok (.iaload, 1) := by decide +kernel
theorem dMD_step_109 : decode cMD_step 109 = .ok (.ifCond .ne 9, 3) := by decide +kernel
theorem dMD_step_112 : decode cMD_step 112 = .ok (.aload_n 0, 1) := by decide +kernel
theorem dMD_step_113 : decode cMD_step 113 = .ok (.iconst 3, 1) := by decide +kernel
theorem dMD_step_114 : decode cMD_step 114 = .ok (.invokevirtual 81, 3) := by decide +kernel
theorem dMD_step_117 : decode cMD_step 117 = .ok (.ireturn, 1) := by decide +kernel
theorem dMD_step_118 : decode cMD_step 118 = .ok (.aload_n 0, 1) := by decide +kernel
theorem dMD_step_119 : decode cMD_step 119 = .ok (.iconst 0, 1) := by decide +kernel
theorem dMD_step_120 : decode cMD_step 120 = .ok (.putfield 63, 3) := by decide +kernel
theorem dMD_step_123 : decode cMD_step 123 = .ok (.iload_n 3, 1) := by decide +kernel
theorem dMD_step_124 : decode cMD_step 124 = .ok (.bipush 10, 2) := by decide +kernel
theorem dMD_step_126 : decode cMD_step 126 = .ok (.if_icmp .lt 11, 3) := by decide +kernel
theorem dMD_step_129 : decode cMD_step 129 = .ok (.aload_n 0, 1) := by decide +kernel
theorem dMD_step_130 : decode cMD_step 130 = .ok (.iload_n 1, 1) := by decide +kernel
theorem dMD_step_131 : decode cMD_step 131 = .ok (.iload_n 2, 1) := by decide +kernel
theorem dMD_step_132 : decode cMD_step 132 = .ok (.invokevirtual 92, 3) := by decide +kernel
theorem dMD_step_135 : decode cMD_step 135 = .ok (.iconst 2, 1) := by decide +kernel
theorem dMD_step_136 : decode cMD_step 136 = .ok (.ireturn, 1) := by decide +kernel
theorem dMD_step_137 : decode cMD_step 137 = .ok (.iload_n 3, 1) := by decide +kernel
theorem dMD_step_138 : decode cMD_step 138 = .ok (.iconst 2, 1) := by decide +kernel
theorem dMD_step_139 : decode cMD_step 139 = .ok (.if_icmp .ne 24, 3) := by decide +kernel
theorem dMD_step_142 : decode cMD_step 142 = .ok (.aload_n 0, 1) := by decide +kernel
theorem dMD_step_143 : decode cMD_step 143 = .ok (.getfield 31, 3) := by decide +kernel
theorem dMD_step_146 : decode cMD_step 146 = .ok (.iload 4, 2) := by decide +kernel
theorem dMD_step_148 : decode cMD_step 148 = .ok (.iaload, 1) := by decide +kernel
theorem dMD_step_149 : decode cMD_step 149 = .ok (.ifCond .lt 14, 3) := by decide +kernel
theorem dMD_step_152 : decode cMD_step 152 = .ok (.aload_n 0, 1) := by decide +kernel
theorem dMD_step_153 : decode cMD_step 153 = .ok (.getfield 31, 3) := by decide +kernel
theorem dMD_step_156 : decode cMD_step 156 = .ok (.iload 4, 2) := by decide +kernel
theorem dMD_step_158 : decode cMD_step 158 = .ok (.iaload, 1) := by decide +kernel
theorem dMD_step_159 : decode cMD_step 159 = .ok (.iload_n 1, 1) := by decide +kernel
theorem dMD_step_160 : decode cMD_step 160 = .ok (.if_icmp .ne 20, 3) := by decide +kernel
theorem dMD_step_163 : decode cMD_step 163 = .ok (.iload_n 3, 1) := by decide +kernel
theorem dMD_step_164 : decode cMD_step 164 = .ok (.bipush 7, 2) := by decide +kernel
theorem dMD_step_166 : decode cMD_step 166 = .ok (.if_icmp .ne 18, 3) := by decide +kernel
theorem dMD_step_169 : decode cMD_step 169 = .ok (.aload_n 0, 1) := by decide +kernel
theorem dMD_step_170 : decode cMD_step 170 = .ok (.getfield 22, 3) := by decide +kernel
theorem dMD_step_173 : decode cMD_step 173 = .ok (.iload 4, 2) := by decide +kernel
theorem dMD_step_175 : decode cMD_step 175 = .ok (.iaload, 1) := by decide +kernel
theorem dMD_step_176 : decode cMD_step 176 = .ok (.iconst 2, 1) := by decide +kernel
theorem dMD_step_177 : decode cMD_step 177 = .ok (.if_icmp .eq 7, 3) := by decide +kernel
theorem dMD_step_180 : decode cMD_step 180 = .ok (.iconst 1, 1) := by decide +kernel
theorem dMD_step_181 : decode cMD_step 181 = .ok (.goto 4, 3) := by decide +kernel
theorem dMD_step_184 : decode cMD_step 184 = .ok (.iconst 0, 1) := by decide +kernel
theorem dMD_step_185 : decode cMD_step 185 = .ok (.istore 5, 2) := by decide +kernel
theorem dMD_step_187 : decode cMD_step 187 = .ok (.iload 5, 2) := by decide +kernel
theorem dMD_step_189 : decode cMD_step 189 = .ok (.ifCond .ne 13, 3) := by decide +kernel
theorem dMD_step_192 : decode cMD_step 192 = .ok (.aload_n 0, 1) := by decide +kernel
theorem dMD_step_193 : decode cMD_step 193 = .ok (.getfield 78, 3) := by decide +kernel
theorem dMD_step_196 : decode cMD_step 196 = .ok (.sipush 200, 3) := by decide +kernel
theorem dMD_step_199 : decode cMD_step 199 = .ok (.if_icmp .ne 5, 3) := by decide +kernel
theorem dMD_step_202 : decode cMD_step 202 = .ok (.iconst 0, 1) := by decide +kernel
theorem dMD_step_203 : decode cMD_step 203 = .ok (.ireturn, 1) := by decide +kernel
theorem dMD_step_204 : decode cMD_step 204 = .ok (.aload_n 0, 1) := by decide +kernel
theorem dMD_step_205 : decode cMD_step 205 = .ok (.iload_n 1, 1) := by decide +kernel
theorem dMD_step_206 : decode cMD_step 206 = .ok (.iload_n 3, 1) := by decide +kernel
theorem dMD_step_207 : decode cMD_step 207 = .ok (.iload_n 3, 1) := by decide +kernel
theorem dMD_step_208 : decode cMD_step 208 = .ok (.bipush 8, 2) := by decide +kernel
theorem dMD_step_210 : decode cMD_step 210 = .ok (.if_icmp .lt 16, 3) := by decide +kernel
theorem dMD_step_213 : decode cMD_step 213 = .ok (.iconst 4, 1) := by decide +kernel
theorem dMD_step_214 : decode cMD_step 214 = .ok (.aload_n 0, 1) := by decide +kernel
theorem dMD_step_215 : decode cMD_step 215 = .ok (.getfield 28, 3) := by decide +kernel
theorem dMD_step_218 : decode cMD_step 218 = .ok (.iload_n 1, 1) := by decide +kernel
theorem dMD_step_219 : decode cMD_step 219 = .ok (.iaload, 1) := by decide +kernel
theorem dMD_step_220 : decode cMD_step 220 = .ok (.iconst 3, 1) := by decide +kernel
theorem dMD_step_221 : decode cMD_step 221 = .ok (.iand, 1) := by decide +kernel
theorem dMD_step_222 : decode cMD_step 222 = .ok (.iadd, 1) := by decide +kernel
theorem dMD_step_223 : decode cMD_step 223 = .ok (.goto 5, 3) := by decide +kernel
theorem dMD_step_226 : decode cMD_step 226 = .ok (.iload 4, 2) := by decide +kernel
theorem dMD_step_228 : decode cMD_step 228 = .ok (.invokevirtual 96, 3) := by decide +kernel
theorem dMD_step_231 : decode cMD_step 231 = .ok (.aload_n 0, 1) := by decide +kernel
theorem dMD_step_232 : decode cMD_step 232 = .ok (.iload_n 1, 1) := by decide +kernel
theorem dMD_step_233 : decode cMD_step 233 = .ok (.aload_n 0, 1) := by decide +kernel
theorem dMD_step_234 : decode cMD_step 234 = .ok (.getfield 25, 3) := by decide +kernel
theorem dMD_step_237 : decode cMD_step 237 = .ok (.iload_n 1, 1) := by decide +kernel
theorem dMD_step_238 : decode cMD_step 238 = .ok (.iaload, 1) := by decide +kernel
theorem dMD_step_239 : decode cMD_step 239 = .ok (.iconst 1, 1) := by decide +kernel
theorem dMD_step_240 : decode cMD_step 240 = .ok (.iadd, 1) := by decide +kernel
theorem dMD_step_241 : decode cMD_step 241 = .ok (.invokevirtual 100, 3) := by decide +kernel
theorem dMD_step_244 : decode cMD_step 244 = .ok (.iconst 1, 1) := by decide +kernel
theorem dMD_step_245 : decode cMD_step 245 = .ok (.ireturn, 1) := by decide +kernel
set_option maxHeartbeats 4000000 in
set_option maxRecDepth 100000 in
theorem c_MD_state (l : Launch) (D : va_G) (tc : Nat → ClassId) (ad : Nat → Nat) (E : Nat → va_E) (th ic : Int32) (A : Nat → Nat → Int32) (J : Nat → Int64) (t : Int32) (hM : isMD tc ad E th 0 ic 0 A J) : Ct l D tc yMD_state 1 17 ad E [.ref (ad 0), .int t] (fun o E2 => o = .returned (some (.long (-1))) ∧ isMD tc ad E2 0 0 ic 0 A J) := by
  refine Ct.ofW (cc := cMD_state) (maxL := 2) (ret := (some .long)) (own := R_MD) (by decide) rfl w_623 (Nat.le_of_ble_eq_true rfl) ?_
  intro p e s m args below meth c ls X hlk hr hD hP hS hl
  have hx := X.1
  have hb := X.2.1
  have hl : lv_has ls 2 [(0, .ref (ad 0)), (1, .int t)] := hl
  obtain ⟨m0, m1, m2, m3, m4, m5, m6, m7, m8, m9, m10, m11, m12, m13, m14, m15, m16⟩ := hM
  refine lv_aload_n hx hb dMD_state_0 rfl (lv_at hl 0 rfl) ?_
  refine lv_iconst (v := 0) hx hb dMD_state_1 (by decide) ?_
  refine p_MD_63 X hD hP hS (by omega) (m0) rfl rfl (Nat.le_of_ble_eq_true rfl) dMD_state_2 (fun H locs hD hP hS => ?_)
  have hP : va_P D vwCl (wW 17 ad (va_up E 0 (.inr (7, [.int 0, .int 0, .int ic, .ref (ad 1), .ref (ad 2), .ref (ad 3), .ref (ad 4), .ref (ad 5), .ref (ad 6), .ref (ad 7), .ref (ad 8), .ref (ad 9), .int 0, .ref (ad 10), .ref (ad 11), .ref (ad 12), .ref (ad 13), .ref (ad 14), .ref (ad 15), .ref (ad 16)])))) H := hP
  have hD : va_D (Aw 17 ad) (wW 17 ad (va_up E 0 (.inr (7, [.int 0, .int 0, .int ic, .ref (ad 1), .ref (ad 2), .ref (ad 3), .ref (ad 4), .ref (ad 5), .ref (ad 6), .ref (ad 7), .ref (ad 8), .ref (ad 9), .int 0, .ref (ad 10), .ref (ad 11), .ref (ad 12), .ref (ad 13), .ref (ad 14), .ref (ad 15), .ref (ad 16)])))) := hD
  generalize g2 : va_up E 0 (.inr (7, [.int 0, .int 0, .int ic, .ref (ad 1), .ref (ad 2), .ref (ad 3), .ref (ad 4), .ref (ad 5), .ref (ad 6), .ref (ad 7), .ref (ad 8), .ref (ad 9), .int 0, .ref (ad 10), .ref (ad 11), .ref (ad 12), .ref (ad 13), .ref (ad 14), .ref (ad 15), .ref (ad 16)])) = E1 at hD hP
  have f3 : E1 0 = .inr (7, [.int 0, .int 0, .int ic, .ref (ad 1), .ref (ad 2), .ref (ad 3), .ref (ad 4), .ref (ad 5), .ref (ad 6), .ref (ad 7), .ref (ad 8), .ref (ad 9), .int 0, .ref (ad 10), .ref (ad 11), .ref (ad 12), .ref (ad 13), .ref (ad 14), .ref (ad 15), .ref (ad 16)]) := by rw [← g2]; exact va_up_self _ _ _
  have f4 : E1 1 = .inl (tc 0, 5, .inl (A 1)) := by rw [← g2, va_up_ne _ _ (by omega)]; exact m1
  have f5 : E1 2 = .inl (tc 0, 60, .inl (A 2)) := by rw [← g2, va_up_ne _ _ (by omega)]; exact m2
  have f6 : E1 3 = .inl (tc 0, 60, .inl (A 3)) := by rw [← g2, va_up_ne _ _ (by omega)]; exact m3
  have f7 : E1 4 = .inl (tc 0, 60, .inl (A 4)) := by rw [← g2, va_up_ne _ _ (by omega)]; exact m4
  have f8 : E1 5 = .inl (tc 0, 5, .inl (A 5)) := by rw [← g2, va_up_ne _ _ (by omega)]; exact m5
  have f9 : E1 6 = .inl (tc 0, 5, .inl (A 6)) := by rw [← g2, va_up_ne _ _ (by omega)]; exact m6
  have f10 : E1 7 = .inl (tc 0, 5, .inl (A 7)) := by rw [← g2, va_up_ne _ _ (by omega)]; exact m7
  have f11 : E1 8 = .inl (tc 0, 3, .inl (A 8)) := by rw [← g2, va_up_ne _ _ (by omega)]; exact m8
  have f12 : E1 9 = .inl (tc 0, 3, .inl (A 9)) := by rw [← g2, va_up_ne _ _ (by omega)]; exact m9
  have f13 : E1 10 = .inl (tc 0, 200, .inl (A 10)) := by rw [← g2, va_up_ne _ _ (by omega)]; exact m10
  have f14 : E1 11 = .inl (tc 0, 200, .inl (A 11)) := by rw [← g2, va_up_ne _ _ (by omega)]; exact m11
  have f15 : E1 12 = .inl (tc 0, 200, .inl (A 12)) := by rw [← g2, va_up_ne _ _ (by omega)]; exact m12
  have f16 : E1 13 = .inl (tc 2, 200, .inl (A 13)) := by rw [← g2, va_up_ne _ _ (by omega)]; exact m13
  have f17 : E1 15 = .inl (tc 0, 8, .inl (A 15)) := by rw [← g2, va_up_ne _ _ (by omega)]; exact m15
  have f18 : E1 16 = .inl (tc 0, 8, .inl (A 16)) := by rw [← g2, va_up_ne _ _ (by omega)]; exact m16
  have f19 : E1 14 = .inl (tc 1, 800, .inr (.inl J)) := by rw [← g2, va_up_ne _ _ (by omega)]; exact m14
  refine lv_aload_n hx hb dMD_state_5 rfl (lv_at hl 0 rfl) ?_
  refine g_MD_71 X hP (by omega) (f3) rfl dMD_state_6 ?_
  refine lv_if_eq (tgt := 51) hx hb dMD_state_9 rfl (fun h9 => ?_) (fun h9 => absurd (rfl) h9)
  refine lv_ldc2 (v := (-1)) hx hb X.2.2.2.1 (X.2.2.2.2.1 _ w_625) dMD_state_51 ?_
  exact q_lret X hlk hr hP hS dMD_state_54 (⟨rfl, ⟨f3, f4, f5, f6, f7, f8, f9, f10, f11, f12, f13, f14, f15, f16, f19, f17, f18⟩⟩)
set_option maxHeartbeats 4000000 in
set_option maxRecDepth 100000 in
theorem c_MD_events (l : Launch) (D : va_G) (tc : Nat → ClassId) (ad : Nat → Nat) (E : Nat → va_E) (th ic : Int32) (A : Nat → Nat → Int32) (J : Nat → Int64) (hM : isMD tc ad E th 0 ic 0 A J) : Ct l D tc yMD_events 0 17 ad E [.ref (ad 0)] (fun o E2 => o = .returned (some (.int 0)) ∧ isMD tc ad E2 0 0 ic 0 A J) := by
  refine Ct.ofW (cc := cMD_events) (maxL := 1) (ret := (some .int)) (own := R_MD) (by decide) rfl w_633 (Nat.le_of_ble_eq_true rfl) ?_
  intro p e s m args below meth c ls X hlk hr hD hP hS hl
  have hx := X.1
  have hb := X.2.1
  have hl : lv_has ls 1 [(0, .ref (ad 0))] := hl
  obtain ⟨m0, m1, m2, m3, m4, m5, m6, m7, m8, m9, m10, m11, m12, m13, m14, m15, m16⟩ := hM
  refine lv_aload_n hx hb dMD_events_0 rfl (lv_at hl 0 rfl) ?_
  refine lv_iconst (v := 0) hx hb dMD_events_1 (by decide) ?_
  refine p_MD_63 X hD hP hS (by omega) (m0) rfl rfl (Nat.le_of_ble_eq_true rfl) dMD_events_2 (fun H locs hD hP hS => ?_)
  have hP : va_P D vwCl (wW 17 ad (va_up E 0 (.inr (7, [.int 0, .int 0, .int ic, .ref (ad 1), .ref (ad 2), .ref (ad 3), .ref (ad 4), .ref (ad 5), .ref (ad 6), .ref (ad 7), .ref (ad 8), .ref (ad 9), .int 0, .ref (ad 10), .ref (ad 11), .ref (ad 12), .ref (ad 13), .ref (ad 14), .ref (ad 15), .ref (ad 16)])))) H := hP
  have hD : va_D (Aw 17 ad) (wW 17 ad (va_up E 0 (.inr (7, [.int 0, .int 0, .int ic, .ref (ad 1), .ref (ad 2), .ref (ad 3), .ref (ad 4), .ref (ad 5), .ref (ad 6), .ref (ad 7), .ref (ad 8), .ref (ad 9), .int 0, .ref (ad 10), .ref (ad 11), .ref (ad 12), .ref (ad 13), .ref (ad 14), .ref (ad 15), .ref (ad 16)])))) := hD
  generalize g2 : va_up E 0 (.inr (7, [.int 0, .int 0, .int ic, .ref (ad 1), .ref (ad 2), .ref (ad 3), .ref (ad 4), .ref (ad 5), .ref (ad 6), .ref (ad 7), .ref (ad 8), .ref (ad 9), .int 0, .ref (ad 10), .ref (ad 11), .ref (ad 12), .ref (ad 13), .ref (ad 14), .ref (ad 15), .ref (ad 16)])) = E1 at hD hP
  have f3 : E1 0 = .inr (7, [.int 0, .int 0, .int ic, .ref (ad 1), .ref (ad 2), .ref (ad 3), .ref (ad 4), .ref (ad 5), .ref (ad 6), .ref (ad 7), .ref (ad 8), .ref (ad 9), .int 0, .ref (ad 10), .ref (ad 11), .ref (ad 12), .ref (ad 13), .ref (ad 14), .ref (ad 15), .ref (ad 16)]) := by rw [← g2]; exact va_up_self _ _ _
  have f4 : E1 1 = .inl (tc 0, 5, .inl (A 1)) := by rw [← g2, va_up_ne _ _ (by omega)]; exact m1
  have f5 : E1 2 = .inl (tc 0, 60, .inl (A 2)) := by rw [← g2, va_up_ne _ _ (by omega)]; exact m2
  have f6 : E1 3 = .inl (tc 0, 60, .inl (A 3)) := by rw [← g2, va_up_ne _ _ (by omega)]; exact m3
  have f7 : E1 4 = .inl (tc 0, 60, .inl (A 4)) := by rw [← g2, va_up_ne _ _ (by omega)]; exact m4
  have f8 : E1 5 = .inl (tc 0, 5, .inl (A 5)) := by rw [← g2, va_up_ne _ _ (by omega)]; exact m5
  have f9 : E1 6 = .inl (tc 0, 5, .inl (A 6)) := by rw [← g2, va_up_ne _ _ (by omega)]; exact m6
  have f10 : E1 7 = .inl (tc 0, 5, .inl (A 7)) := by rw [← g2, va_up_ne _ _ (by omega)]; exact m7
  have f11 : E1 8 = .inl (tc 0, 3, .inl (A 8)) := by rw [← g2, va_up_ne _ _ (by omega)]; exact m8
  have f12 : E1 9 = .inl (tc 0, 3, .inl (A 9)) := by rw [← g2, va_up_ne _ _ (by omega)]; exact m9
  have f13 : E1 10 = .inl (tc 0, 200, .inl (A 10)) := by rw [← g2, va_up_ne _ _ (by omega)]; exact m10
  have f14 : E1 11 = .inl (tc 0, 200, .inl (A 11)) := by rw [← g2, va_up_ne _ _ (by omega)]; exact m11
  have f15 : E1 12 = .inl (tc 0, 200, .inl (A 12)) := by rw [← g2, va_up_ne _ _ (by omega)]; exact m12
  have f16 : E1 13 = .inl (tc 2, 200, .inl (A 13)) := by rw [← g2, va_up_ne _ _ (by omega)]; exact m13
  have f17 : E1 15 = .inl (tc 0, 8, .inl (A 15)) := by rw [← g2, va_up_ne _ _ (by omega)]; exact m15
  have f18 : E1 16 = .inl (tc 0, 8, .inl (A 16)) := by rw [← g2, va_up_ne _ _ (by omega)]; exact m16
  have f19 : E1 14 = .inl (tc 1, 800, .inr (.inl J)) := by rw [← g2, va_up_ne _ _ (by omega)]; exact m14
  refine lv_aload_n hx hb dMD_events_5 rfl (lv_at hl 0 rfl) ?_
  refine g_MD_78 X hP (by omega) (f3) rfl dMD_events_6 ?_
  exact q_iret X hlk hr hP hS dMD_events_9 (⟨rfl, ⟨f3, f4, f5, f6, f7, f8, f9, f10, f11, f12, f13, f14, f15, f16, f19, f17, f18⟩⟩)
set_option maxHeartbeats 4000000 in
set_option maxRecDepth 100000 in
theorem c_MD_event (l : Launch) (D : va_G) (tc : Nat → ClassId) (ad : Nat → Nat) (E : Nat → va_E) (th ic : Int32) (A : Nat → Nat → Int32) (J : Nat → Int64) (k : Int32) (hM : isMD tc ad E th 0 ic 0 A J) : Ct l D tc yMD_event 1 17 ad E [.ref (ad 0), .int k] (fun o E2 => o = .returned (some (.int (-1))) ∧ isMD tc ad E2 0 0 ic 0 A J) := by
  refine Ct.ofW (cc := cMD_event) (maxL := 2) (ret := (some .int)) (own := R_MD) (by decide) rfl w_637 (Nat.le_of_ble_eq_true rfl) ?_
  intro p e s m args below meth c ls X hlk hr hD hP hS hl
  have hx := X.1
  have hb := X.2.1
  have hl : lv_has ls 2 [(0, .ref (ad 0)), (1, .int k)] := hl
  obtain ⟨m0, m1, m2, m3, m4, m5, m6, m7, m8, m9, m10, m11, m12, m13, m14, m15, m16⟩ := hM
  refine lv_aload_n hx hb dMD_event_0 rfl (lv_at hl 0 rfl) ?_
  refine lv_iconst (v := 0) hx hb dMD_event_1 (by decide) ?_
  refine p_MD_63 X hD hP hS (by omega) (m0) rfl rfl (Nat.le_of_ble_eq_true rfl) dMD_event_2 (fun H locs hD hP hS => ?_)
  have hP : va_P D vwCl (wW 17 ad (va_up E 0 (.inr (7, [.int 0, .int 0, .int ic, .ref (ad 1), .ref (ad 2), .ref (ad 3), .ref (ad 4), .ref (ad 5), .ref (ad 6), .ref (ad 7), .ref (ad 8), .ref (ad 9), .int 0, .ref (ad 10), .ref (ad 11), .ref (ad 12), .ref (ad 13), .ref (ad 14), .ref (ad 15), .ref (ad 16)])))) H := hP
  have hD : va_D (Aw 17 ad) (wW 17 ad (va_up E 0 (.inr (7, [.int 0, .int 0, .int ic, .ref (ad 1), .ref (ad 2), .ref (ad 3), .ref (ad 4), .ref (ad 5), .ref (ad 6), .ref (ad 7), .ref (ad 8), .ref (ad 9), .int 0, .ref (ad 10), .ref (ad 11), .ref (ad 12), .ref (ad 13), .ref (ad 14), .ref (ad 15), .ref (ad 16)])))) := hD
  generalize g2 : va_up E 0 (.inr (7, [.int 0, .int 0, .int ic, .ref (ad 1), .ref (ad 2), .ref (ad 3), .ref (ad 4), .ref (ad 5), .ref (ad 6), .ref (ad 7), .ref (ad 8), .ref (ad 9), .int 0, .ref (ad 10), .ref (ad 11), .ref (ad 12), .ref (ad 13), .ref (ad 14), .ref (ad 15), .ref (ad 16)])) = E1 at hD hP
  have f3 : E1 0 = .inr (7, [.int 0, .int 0, .int ic, .ref (ad 1), .ref (ad 2), .ref (ad 3), .ref (ad 4), .ref (ad 5), .ref (ad 6), .ref (ad 7), .ref (ad 8), .ref (ad 9), .int 0, .ref (ad 10), .ref (ad 11), .ref (ad 12), .ref (ad 13), .ref (ad 14), .ref (ad 15), .ref (ad 16)]) := by rw [← g2]; exact va_up_self _ _ _
  have f4 : E1 1 = .inl (tc 0, 5, .inl (A 1)) := by rw [← g2, va_up_ne _ _ (by omega)]; exact m1
  have f5 : E1 2 = .inl (tc 0, 60, .inl (A 2)) := by rw [← g2, va_up_ne _ _ (by omega)]; exact m2
  have f6 : E1 3 = .inl (tc 0, 60, .inl (A 3)) := by rw [← g2, va_up_ne _ _ (by omega)]; exact m3
  have f7 : E1 4 = .inl (tc 0, 60, .inl (A 4)) := by rw [← g2, va_up_ne _ _ (by omega)]; exact m4
  have f8 : E1 5 = .inl (tc 0, 5, .inl (A 5)) := by rw [← g2, va_up_ne _ _ (by omega)]; exact m5
  have f9 : E1 6 = .inl (tc 0, 5, .inl (A 6)) := by rw [← g2, va_up_ne _ _ (by omega)]; exact m6
  have f10 : E1 7 = .inl (tc 0, 5, .inl (A 7)) := by rw [← g2, va_up_ne _ _ (by omega)]; exact m7
  have f11 : E1 8 = .inl (tc 0, 3, .inl (A 8)) := by rw [← g2, va_up_ne _ _ (by omega)]; exact m8
  have f12 : E1 9 = .inl (tc 0, 3, .inl (A 9)) := by rw [← g2, va_up_ne _ _ (by omega)]; exact m9
  have f13 : E1 10 = .inl (tc 0, 200, .inl (A 10)) := by rw [← g2, va_up_ne _ _ (by omega)]; exact m10
  have f14 : E1 11 = .inl (tc 0, 200, .inl (A 11)) := by rw [← g2, va_up_ne _ _ (by omega)]; exact m11
  have f15 : E1 12 = .inl (tc 0, 200, .inl (A 12)) := by rw [← g2, va_up_ne _ _ (by omega)]; exact m12
  have f16 : E1 13 = .inl (tc 2, 200, .inl (A 13)) := by rw [← g2, va_up_ne _ _ (by omega)]; exact m13
  have f17 : E1 15 = .inl (tc 0, 8, .inl (A 15)) := by rw [← g2, va_up_ne _ _ (by omega)]; exact m15
  have f18 : E1 16 = .inl (tc 0, 8, .inl (A 16)) := by rw [← g2, va_up_ne _ _ (by omega)]; exact m16
  have f19 : E1 14 = .inl (tc 1, 800, .inr (.inl J)) := by rw [← g2, va_up_ne _ _ (by omega)]; exact m14
  refine lv_iload_n hx hb dMD_event_5 rfl (lv_at hl 1 rfl) ?_
  refine lv_aload_n hx hb dMD_event_6 rfl (lv_at hl 0 rfl) ?_
  refine g_MD_78 X hP (by omega) (f3) rfl dMD_event_7 ?_
  refine x_iE (f := fun k => 0 + k) (x_runS (As := [.int k, .int 0]) (rest := []) X (c_MD_within l D tc (fun k => ad (0 + k)) (fun k => E1 (0 + k)) k 0 (n := 0) (by decide)) rfl rfl (by decide) (by decide) w_551 w_9 w_549 w_550 ry_MD_within (ct_pre X hP hD (fr_lt 0 17 0 (by omega)) (fr_inj 0 0)) ct_blind hl.1 (Nat.le_of_ble_eq_true rfl) dMD_event_10 ⟨Nat.zero_le _, Nat.zero_le _⟩) hD hP hS (fr_lt 0 17 0 (by omega)) (fr_inj 0 0) (fun H locs hD hP hS => ?_)
  refine lv_if_eq (tgt := 46) hx hb dMD_event_13 rfl (fun h13 => ?_) (fun h13 => absurd (by rw [wi_0]; rfl) h13)
  refine lv_iconst (v := (-1)) hx hb dMD_event_46 (by decide) ?_
  exact q_iret X hlk hr hP hS dMD_event_47 (⟨rfl, ⟨f3, f4, f5, f6, f7, f8, f9, f10, f11, f12, f13, f14, f15, f16, f19, f17, f18⟩⟩)
set_option maxHeartbeats 4000000 in
set_option maxRecDepth 100000 in
theorem c_MD_before (l : Launch) (D : va_G) (tc : Nat → ClassId) (ad : Nat → Nat) (E : Nat → va_E) (th ic : Int32) (A : Nat → Nat → Int32) (J : Nat → Int64) (i j : Int32) (hM : isMD tc ad E th 0 ic 0 A J) : Ct l D tc yMD_before 1 17 ad E [.ref (ad 0), .int i, .int j] (fun o E2 => o = .returned (some (.int 0)) ∧ isMD tc ad E2 0 0 ic 0 A J) := by
  refine Ct.ofW (cc := cMD_before) (maxL := 3) (ret := (some .boolean)) (own := R_MD) (by decide) rfl w_641 (Nat.le_of_ble_eq_true rfl) ?_
  intro p e s m args below meth c ls X hlk hr hD hP hS hl
  have hx := X.1
  have hb := X.2.1
  have hl : lv_has ls 3 [(0, .ref (ad 0)), (1, .int i), (2, .int j)] := hl
  obtain ⟨m0, m1, m2, m3, m4, m5, m6, m7, m8, m9, m10, m11, m12, m13, m14, m15, m16⟩ := hM
  refine lv_aload_n hx hb dMD_before_0 rfl (lv_at hl 0 rfl) ?_
  refine lv_iconst (v := 0) hx hb dMD_before_1 (by decide) ?_
  refine p_MD_63 X hD hP hS (by omega) (m0) rfl rfl (Nat.le_of_ble_eq_true rfl) dMD_before_2 (fun H locs hD hP hS => ?_)
  have hP : va_P D vwCl (wW 17 ad (va_up E 0 (.inr (7, [.int 0, .int 0, .int ic, .ref (ad 1), .ref (ad 2), .ref (ad 3), .ref (ad 4), .ref (ad 5), .ref (ad 6), .ref (ad 7), .ref (ad 8), .ref (ad 9), .int 0, .ref (ad 10), .ref (ad 11), .ref (ad 12), .ref (ad 13), .ref (ad 14), .ref (ad 15), .ref (ad 16)])))) H := hP
  have hD : va_D (Aw 17 ad) (wW 17 ad (va_up E 0 (.inr (7, [.int 0, .int 0, .int ic, .ref (ad 1), .ref (ad 2), .ref (ad 3), .ref (ad 4), .ref (ad 5), .ref (ad 6), .ref (ad 7), .ref (ad 8), .ref (ad 9), .int 0, .ref (ad 10), .ref (ad 11), .ref (ad 12), .ref (ad 13), .ref (ad 14), .ref (ad 15), .ref (ad 16)])))) := hD
  generalize g2 : va_up E 0 (.inr (7, [.int 0, .int 0, .int ic, .ref (ad 1), .ref (ad 2), .ref (ad 3), .ref (ad 4), .ref (ad 5), .ref (ad 6), .ref (ad 7), .ref (ad 8), .ref (ad 9), .int 0, .ref (ad 10), .ref (ad 11), .ref (ad 12), .ref (ad 13), .ref (ad 14), .ref (ad 15), .ref (ad 16)])) = E1 at hD hP
  have f3 : E1 0 = .inr (7, [.int 0, .int 0, .int ic, .ref (ad 1), .ref (ad 2), .ref (ad 3), .ref (ad 4), .ref (ad 5), .ref (ad 6), .ref (ad 7), .ref (ad 8), .ref (ad 9), .int 0, .ref (ad 10), .ref (ad 11), .ref (ad 12), .ref (ad 13), .ref (ad 14), .ref (ad 15), .ref (ad 16)]) := by rw [← g2]; exact va_up_self _ _ _
  have f4 : E1 1 = .inl (tc 0, 5, .inl (A 1)) := by rw [← g2, va_up_ne _ _ (by omega)]; exact m1
  have f5 : E1 2 = .inl (tc 0, 60, .inl (A 2)) := by rw [← g2, va_up_ne _ _ (by omega)]; exact m2
  have f6 : E1 3 = .inl (tc 0, 60, .inl (A 3)) := by rw [← g2, va_up_ne _ _ (by omega)]; exact m3
  have f7 : E1 4 = .inl (tc 0, 60, .inl (A 4)) := by rw [← g2, va_up_ne _ _ (by omega)]; exact m4
  have f8 : E1 5 = .inl (tc 0, 5, .inl (A 5)) := by rw [← g2, va_up_ne _ _ (by omega)]; exact m5
  have f9 : E1 6 = .inl (tc 0, 5, .inl (A 6)) := by rw [← g2, va_up_ne _ _ (by omega)]; exact m6
  have f10 : E1 7 = .inl (tc 0, 5, .inl (A 7)) := by rw [← g2, va_up_ne _ _ (by omega)]; exact m7
  have f11 : E1 8 = .inl (tc 0, 3, .inl (A 8)) := by rw [← g2, va_up_ne _ _ (by omega)]; exact m8
  have f12 : E1 9 = .inl (tc 0, 3, .inl (A 9)) := by rw [← g2, va_up_ne _ _ (by omega)]; exact m9
  have f13 : E1 10 = .inl (tc 0, 200, .inl (A 10)) := by rw [← g2, va_up_ne _ _ (by omega)]; exact m10
  have f14 : E1 11 = .inl (tc 0, 200, .inl (A 11)) := by rw [← g2, va_up_ne _ _ (by omega)]; exact m11
  have f15 : E1 12 = .inl (tc 0, 200, .inl (A 12)) := by rw [← g2, va_up_ne _ _ (by omega)]; exact m12
  have f16 : E1 13 = .inl (tc 2, 200, .inl (A 13)) := by rw [← g2, va_up_ne _ _ (by omega)]; exact m13
  have f17 : E1 15 = .inl (tc 0, 8, .inl (A 15)) := by rw [← g2, va_up_ne _ _ (by omega)]; exact m15
  have f18 : E1 16 = .inl (tc 0, 8, .inl (A 16)) := by rw [← g2, va_up_ne _ _ (by omega)]; exact m16
  have f19 : E1 14 = .inl (tc 1, 800, .inr (.inl J)) := by rw [← g2, va_up_ne _ _ (by omega)]; exact m14
  refine lv_iload_n hx hb dMD_before_5 rfl (lv_at hl 1 rfl) ?_
  refine lv_aload_n hx hb dMD_before_6 rfl (lv_at hl 0 rfl) ?_
  refine g_MD_78 X hP (by omega) (f3) rfl dMD_before_7 ?_
  refine x_iE (f := fun k => 0 + k) (x_runS (As := [.int i, .int 0]) (rest := []) X (c_MD_within l D tc (fun k => ad (0 + k)) (fun k => E1 (0 + k)) i 0 (n := 0) (by decide)) rfl rfl (by decide) (by decide) w_551 w_9 w_549 w_550 ry_MD_within (ct_pre X hP hD (fr_lt 0 17 0 (by omega)) (fr_inj 0 0)) ct_blind hl.1 (Nat.le_of_ble_eq_true rfl) dMD_before_10 ⟨Nat.zero_le _, Nat.zero_le _⟩) hD hP hS (fr_lt 0 17 0 (by omega)) (fr_inj 0 0) (fun H locs hD hP hS => ?_)
  refine lv_if_eq (tgt := 40) hx hb dMD_before_13 rfl (fun h13 => ?_) (fun h13 => absurd (by rw [wi_0]; rfl) h13)
  refine lv_iconst (v := 0) hx hb dMD_before_40 (by decide) ?_
  exact q_zret X hlk hr (by decide) hP hS dMD_before_41 (⟨rfl, ⟨f3, f4, f5, f6, f7, f8, f9, f10, f11, f12, f13, f14, f15, f16, f19, f17, f18⟩⟩)
set_option maxHeartbeats 4000000 in
set_option maxRecDepth 100000 in
theorem c_MD_holder (l : Launch) (D : va_G) (tc : Nat → ClassId) (ad : Nat → Nat) (E : Nat → va_E) (th ic : Int32) (A : Nat → Nat → Int32) (J : Nat → Int64) (l1 : Int32) (hM : isMD tc ad E th 0 ic 0 A J) (q4 : ∀ t, t < 3 → A 8 t = -1) : Ct l D tc yMD_holder 1 17 ad E [.ref (ad 0), .int l1] (fun o E2 => o = .returned (some (.int (-1))) ∧ isMD tc ad E2 0 0 ic 0 A J) := by
  refine Ct.ofW (cc := cMD_holder) (maxL := 2) (ret := (some .int)) (own := R_MD) (by decide) rfl w_629 (Nat.le_of_ble_eq_true rfl) ?_
  intro p e s m args below meth c ls X hlk hr hD hP hS hl
  have hx := X.1
  have hb := X.2.1
  have hl : lv_has ls 2 [(0, .ref (ad 0)), (1, .int l1)] := hl
  obtain ⟨m0, m1, m2, m3, m4, m5, m6, m7, m8, m9, m10, m11, m12, m13, m14, m15, m16⟩ := hM
  refine lv_aload_n hx hb dMD_holder_0 rfl (lv_at hl 0 rfl) ?_
  refine lv_iconst (v := 0) hx hb dMD_holder_1 (by decide) ?_
  refine p_MD_63 X hD hP hS (by omega) (m0) rfl rfl (Nat.le_of_ble_eq_true rfl) dMD_holder_2 (fun H locs hD hP hS => ?_)
  have hP : va_P D vwCl (wW 17 ad (va_up E 0 (.inr (7, [.int 0, .int 0, .int ic, .ref (ad 1), .ref (ad 2), .ref (ad 3), .ref (ad 4), .ref (ad 5), .ref (ad 6), .ref (ad 7), .ref (ad 8), .ref (ad 9), .int 0, .ref (ad 10), .ref (ad 11), .ref (ad 12), .ref (ad 13), .ref (ad 14), .ref (ad 15), .ref (ad 16)])))) H := hP
  have hD : va_D (Aw 17 ad) (wW 17 ad (va_up E 0 (.inr (7, [.int 0, .int 0, .int ic, .ref (ad 1), .ref (ad 2), .ref (ad 3), .ref (ad 4), .ref (ad 5), .ref (ad 6), .ref (ad 7), .ref (ad 8), .ref (ad 9), .int 0, .ref (ad 10), .ref (ad 11), .ref (ad 12), .ref (ad 13), .ref (ad 14), .ref (ad 15), .ref (ad 16)])))) := hD
  generalize g2 : va_up E 0 (.inr (7, [.int 0, .int 0, .int ic, .ref (ad 1), .ref (ad 2), .ref (ad 3), .ref (ad 4), .ref (ad 5), .ref (ad 6), .ref (ad 7), .ref (ad 8), .ref (ad 9), .int 0, .ref (ad 10), .ref (ad 11), .ref (ad 12), .ref (ad 13), .ref (ad 14), .ref (ad 15), .ref (ad 16)])) = E1 at hD hP
  have f3 : E1 0 = .inr (7, [.int 0, .int 0, .int ic, .ref (ad 1), .ref (ad 2), .ref (ad 3), .ref (ad 4), .ref (ad 5), .ref (ad 6), .ref (ad 7), .ref (ad 8), .ref (ad 9), .int 0, .ref (ad 10), .ref (ad 11), .ref (ad 12), .ref (ad 13), .ref (ad 14), .ref (ad 15), .ref (ad 16)]) := by rw [← g2]; exact va_up_self _ _ _
  have f4 : E1 1 = .inl (tc 0, 5, .inl (A 1)) := by rw [← g2, va_up_ne _ _ (by omega)]; exact m1
  have f5 : E1 2 = .inl (tc 0, 60, .inl (A 2)) := by rw [← g2, va_up_ne _ _ (by omega)]; exact m2
  have f6 : E1 3 = .inl (tc 0, 60, .inl (A 3)) := by rw [← g2, va_up_ne _ _ (by omega)]; exact m3
  have f7 : E1 4 = .inl (tc 0, 60, .inl (A 4)) := by rw [← g2, va_up_ne _ _ (by omega)]; exact m4
  have f8 : E1 5 = .inl (tc 0, 5, .inl (A 5)) := by rw [← g2, va_up_ne _ _ (by omega)]; exact m5
  have f9 : E1 6 = .inl (tc 0, 5, .inl (A 6)) := by rw [← g2, va_up_ne _ _ (by omega)]; exact m6
  have f10 : E1 7 = .inl (tc 0, 5, .inl (A 7)) := by rw [← g2, va_up_ne _ _ (by omega)]; exact m7
  have f11 : E1 8 = .inl (tc 0, 3, .inl (A 8)) := by rw [← g2, va_up_ne _ _ (by omega)]; exact m8
  have f12 : E1 9 = .inl (tc 0, 3, .inl (A 9)) := by rw [← g2, va_up_ne _ _ (by omega)]; exact m9
  have f13 : E1 10 = .inl (tc 0, 200, .inl (A 10)) := by rw [← g2, va_up_ne _ _ (by omega)]; exact m10
  have f14 : E1 11 = .inl (tc 0, 200, .inl (A 11)) := by rw [← g2, va_up_ne _ _ (by omega)]; exact m11
  have f15 : E1 12 = .inl (tc 0, 200, .inl (A 12)) := by rw [← g2, va_up_ne _ _ (by omega)]; exact m12
  have f16 : E1 13 = .inl (tc 2, 200, .inl (A 13)) := by rw [← g2, va_up_ne _ _ (by omega)]; exact m13
  have f17 : E1 15 = .inl (tc 0, 8, .inl (A 15)) := by rw [← g2, va_up_ne _ _ (by omega)]; exact m15
  have f18 : E1 16 = .inl (tc 0, 8, .inl (A 16)) := by rw [← g2, va_up_ne _ _ (by omega)]; exact m16
  have f19 : E1 14 = .inl (tc 1, 800, .inr (.inl J)) := by rw [← g2, va_up_ne _ _ (by omega)]; exact m14
  refine lv_iload_n hx hb dMD_holder_5 rfl (lv_at hl 1 rfl) ?_
  refine lv_iconst (v := 3) hx hb dMD_holder_6 (by decide) ?_
  refine x_iE (f := fun k => 0 + k) (x_runS (As := [.int l1, .int 3]) (rest := []) X (c_MD_within l D tc (fun k => ad (0 + k)) (fun k => E1 (0 + k)) l1 3 (n := 3) (by decide)) rfl rfl (by decide) (by decide) w_551 w_9 w_549 w_550 ry_MD_within (ct_pre X hP hD (fr_lt 0 17 0 (by omega)) (fr_inj 0 0)) ct_blind hl.1 (Nat.le_of_ble_eq_true rfl) dMD_holder_7 ⟨Nat.zero_le _, Nat.zero_le _⟩) hD hP hS (fr_lt 0 17 0 (by omega)) (fr_inj 0 0) (fun H locs hD hP hS => ?_)
  refine lv_if_eq (tgt := 41) hx hb dMD_holder_10 rfl (fun h10 => ?_) (fun h10 => ?_)
  · refine lv_iconst (v := (-1)) hx hb dMD_holder_41 (by decide) ?_
    exact q_iret X hlk hr hP hS dMD_holder_42 (⟨rfl, ⟨f3, f4, f5, f6, f7, f8, f9, f10, f11, f12, f13, f14, f15, f16, f19, f17, f18⟩⟩)
  · obtain ⟨j, hj, rfl⟩ := wi_of (n := 3) (by decide) (bi_t h10)
    refine lv_aload_n hx hb dMD_holder_13 rfl (lv_at hl 0 rfl) ?_
    refine g_MD_31 X hP (by omega) (f3) rfl dMD_holder_14 ?_
    refine lv_iload_n hx hb dMD_holder_17 rfl (lv_at hl 1 rfl) ?_
    refine q_iald j X hP (by omega) (f11) (rfl) (by omega) (by decide) dMD_holder_18 ?_
    refine lv_if_lt (tgt := 41) hx hb dMD_holder_19 rfl (fun h19 => ?_) (fun h19 => absurd (by rw [q4 j hj]; decide) h19)
    refine lv_iconst (v := (-1)) hx hb dMD_holder_41 (by decide) ?_
    exact q_iret X hlk hr hP hS dMD_holder_42 (⟨rfl, ⟨f3, f4, f5, f6, f7, f8, f9, f10, f11, f12, f13, f14, f15, f16, f19, f17, f18⟩⟩)
set_option maxHeartbeats 4000000 in
set_option maxRecDepth 100000 in
theorem c_MD_race (l : Launch) (D : va_G) (tc : Nat → ClassId) (ad : Nat → Nat) (E : Nat → va_E) (th ic : Int32) (A : Nat → Nat → Int32) (J : Nat → Int64) (p1 : Int32) (hM : isMD tc ad E th 0 ic 0 A J) (q2 : ∀ t, t < 8 → A 15 t = -1) : Ct l D tc yMD_race 1 17 ad E [.ref (ad 0), .int p1] (fun o E2 => o = .returned (some (.int (-1))) ∧ isMD tc ad E2 0 0 ic 0 A J) := by
  refine Ct.ofW (cc := cMD_race) (maxL := 2) (ret := (some .int)) (own := R_MD) (by decide) rfl w_645 (Nat.le_of_ble_eq_true rfl) ?_
  intro p e s m args below meth c ls X hlk hr hD hP hS hl
  have hx := X.1
  have hb := X.2.1
  have hl : lv_has ls 2 [(0, .ref (ad 0)), (1, .int p1)] := hl
  obtain ⟨m0, m1, m2, m3, m4, m5, m6, m7, m8, m9, m10, m11, m12, m13, m14, m15, m16⟩ := hM
  refine lv_aload_n hx hb dMD_race_0 rfl (lv_at hl 0 rfl) ?_
  refine lv_iconst (v := 0) hx hb dMD_race_1 (by decide) ?_
  refine p_MD_63 X hD hP hS (by omega) (m0) rfl rfl (Nat.le_of_ble_eq_true rfl) dMD_race_2 (fun H locs hD hP hS => ?_)
  have hP : va_P D vwCl (wW 17 ad (va_up E 0 (.inr (7, [.int 0, .int 0, .int ic, .ref (ad 1), .ref (ad 2), .ref (ad 3), .ref (ad 4), .ref (ad 5), .ref (ad 6), .ref (ad 7), .ref (ad 8), .ref (ad 9), .int 0, .ref (ad 10), .ref (ad 11), .ref (ad 12), .ref (ad 13), .ref (ad 14), .ref (ad 15), .ref (ad 16)])))) H := hP
  have hD : va_D (Aw 17 ad) (wW 17 ad (va_up E 0 (.inr (7, [.int 0, .int 0, .int ic, .ref (ad 1), .ref (ad 2), .ref (ad 3), .ref (ad 4), .ref (ad 5), .ref (ad 6), .ref (ad 7), .ref (ad 8), .ref (ad 9), .int 0, .ref (ad 10), .ref (ad 11), .ref (ad 12), .ref (ad 13), .ref (ad 14), .ref (ad 15), .ref (ad 16)])))) := hD
  generalize g2 : va_up E 0 (.inr (7, [.int 0, .int 0, .int ic, .ref (ad 1), .ref (ad 2), .ref (ad 3), .ref (ad 4), .ref (ad 5), .ref (ad 6), .ref (ad 7), .ref (ad 8), .ref (ad 9), .int 0, .ref (ad 10), .ref (ad 11), .ref (ad 12), .ref (ad 13), .ref (ad 14), .ref (ad 15), .ref (ad 16)])) = E1 at hD hP
  have f3 : E1 0 = .inr (7, [.int 0, .int 0, .int ic, .ref (ad 1), .ref (ad 2), .ref (ad 3), .ref (ad 4), .ref (ad 5), .ref (ad 6), .ref (ad 7), .ref (ad 8), .ref (ad 9), .int 0, .ref (ad 10), .ref (ad 11), .ref (ad 12), .ref (ad 13), .ref (ad 14), .ref (ad 15), .ref (ad 16)]) := by rw [← g2]; exact va_up_self _ _ _
  have f4 : E1 1 = .inl (tc 0, 5, .inl (A 1)) := by rw [← g2, va_up_ne _ _ (by omega)]; exact m1
  have f5 : E1 2 = .inl (tc 0, 60, .inl (A 2)) := by rw [← g2, va_up_ne _ _ (by omega)]; exact m2
  have f6 : E1 3 = .inl (tc 0, 60, .inl (A 3)) := by rw [← g2, va_up_ne _ _ (by omega)]; exact m3
  have f7 : E1 4 = .inl (tc 0, 60, .inl (A 4)) := by rw [← g2, va_up_ne _ _ (by omega)]; exact m4
  have f8 : E1 5 = .inl (tc 0, 5, .inl (A 5)) := by rw [← g2, va_up_ne _ _ (by omega)]; exact m5
  have f9 : E1 6 = .inl (tc 0, 5, .inl (A 6)) := by rw [← g2, va_up_ne _ _ (by omega)]; exact m6
  have f10 : E1 7 = .inl (tc 0, 5, .inl (A 7)) := by rw [← g2, va_up_ne _ _ (by omega)]; exact m7
  have f11 : E1 8 = .inl (tc 0, 3, .inl (A 8)) := by rw [← g2, va_up_ne _ _ (by omega)]; exact m8
  have f12 : E1 9 = .inl (tc 0, 3, .inl (A 9)) := by rw [← g2, va_up_ne _ _ (by omega)]; exact m9
  have f13 : E1 10 = .inl (tc 0, 200, .inl (A 10)) := by rw [← g2, va_up_ne _ _ (by omega)]; exact m10
  have f14 : E1 11 = .inl (tc 0, 200, .inl (A 11)) := by rw [← g2, va_up_ne _ _ (by omega)]; exact m11
  have f15 : E1 12 = .inl (tc 0, 200, .inl (A 12)) := by rw [← g2, va_up_ne _ _ (by omega)]; exact m12
  have f16 : E1 13 = .inl (tc 2, 200, .inl (A 13)) := by rw [← g2, va_up_ne _ _ (by omega)]; exact m13
  have f17 : E1 15 = .inl (tc 0, 8, .inl (A 15)) := by rw [← g2, va_up_ne _ _ (by omega)]; exact m15
  have f18 : E1 16 = .inl (tc 0, 8, .inl (A 16)) := by rw [← g2, va_up_ne _ _ (by omega)]; exact m16
  have f19 : E1 14 = .inl (tc 1, 800, .inr (.inl J)) := by rw [← g2, va_up_ne _ _ (by omega)]; exact m14
  refine lv_iload_n hx hb dMD_race_5 rfl (lv_at hl 1 rfl) ?_
  refine lv_bipush (v := 8) hx hb dMD_race_6 (by decide) ?_
  refine x_iE (f := fun k => 0 + k) (x_runS (As := [.int p1, .int 8]) (rest := []) X (c_MD_within l D tc (fun k => ad (0 + k)) (fun k => E1 (0 + k)) p1 8 (n := 8) (by decide)) rfl rfl (by decide) (by decide) w_551 w_9 w_549 w_550 ry_MD_within (ct_pre X hP hD (fr_lt 0 17 0 (by omega)) (fr_inj 0 0)) ct_blind hl.1 (Nat.le_of_ble_eq_true rfl) dMD_race_8 ⟨Nat.zero_le _, Nat.zero_le _⟩) hD hP hS (fr_lt 0 17 0 (by omega)) (fr_inj 0 0) (fun H locs hD hP hS => ?_)
  refine lv_if_eq (tgt := 23) hx hb dMD_race_11 rfl (fun h11 => ?_) (fun h11 => ?_)
  · refine lv_iconst (v := (-1)) hx hb dMD_race_23 (by decide) ?_
    exact q_iret X hlk hr hP hS dMD_race_24 (⟨rfl, ⟨f3, f4, f5, f6, f7, f8, f9, f10, f11, f12, f13, f14, f15, f16, f19, f17, f18⟩⟩)
  · obtain ⟨j, hj, rfl⟩ := wi_of (n := 8) (by decide) (bi_t h11)
    refine lv_aload_n hx hb dMD_race_14 rfl (lv_at hl 0 rfl) ?_
    refine g_MD_54 X hP (by omega) (f3) rfl dMD_race_15 ?_
    refine lv_iload_n hx hb dMD_race_18 rfl (lv_at hl 1 rfl) ?_
    refine q_iald j X hP (by omega) (f17) (rfl) (by omega) (by decide) dMD_race_19 ?_
    refine lv_goto (tgt := 24) hx hb dMD_race_20 rfl ?_
    exact q_iret X hlk hr hP hS dMD_race_24 (⟨by rw [q2 j hj], ⟨f3, f4, f5, f6, f7, f8, f9, f10, f11, f12, f13, f14, f15, f16, f19, f17, f18⟩⟩)
set_option maxHeartbeats 4000000 in
set_option maxRecDepth 100000 in
theorem c_MD_partner (l : Launch) (D : va_G) (tc : Nat → ClassId) (ad : Nat → Nat) (E : Nat → va_E) (th ic : Int32) (A : Nat → Nat → Int32) (J : Nat → Int64) (p1 : Int32) (hM : isMD tc ad E th 0 ic 0 A J) (q3 : ∀ t, t < 8 → A 16 t = -1) : Ct l D tc yMD_partner 1 17 ad E [.ref (ad 0), .int p1] (fun o E2 => o = .returned (some (.int (-1))) ∧ isMD tc ad E2 0 0 ic 0 A J) := by
  refine Ct.ofW (cc := cMD_partner) (maxL := 2) (ret := (some .int)) (own := R_MD) (by decide) rfl w_649 (Nat.le_of_ble_eq_true rfl) ?_
  intro p e s m args below meth c ls X hlk hr hD hP hS hl
  have hx := X.1
  have hb := X.2.1
  have hl : lv_has ls 2 [(0, .ref (ad 0)), (1, .int p1)] := hl
  obtain ⟨m0, m1, m2, m3, m4, m5, m6, m7, m8, m9, m10, m11, m12, m13, m14, m15, m16⟩ := hM
  refine lv_aload_n hx hb dMD_partner_0 rfl (lv_at hl 0 rfl) ?_
  refine lv_iconst (v := 0) hx hb dMD_partner_1 (by decide) ?_
  refine p_MD_63 X hD hP hS (by omega) (m0) rfl rfl (Nat.le_of_ble_eq_true rfl) dMD_partner_2 (fun H locs hD hP hS => ?_)
  have hP : va_P D vwCl (wW 17 ad (va_up E 0 (.inr (7, [.int 0, .int 0, .int ic, .ref (ad 1), .ref (ad 2), .ref (ad 3), .ref (ad 4), .ref (ad 5), .ref (ad 6), .ref (ad 7), .ref (ad 8), .ref (ad 9), .int 0, .ref (ad 10), .ref (ad 11), .ref (ad 12), .ref (ad 13), .ref (ad 14), .ref (ad 15), .ref (ad 16)])))) H := hP
  have hD : va_D (Aw 17 ad) (wW 17 ad (va_up E 0 (.inr (7, [.int 0, .int 0, .int ic, .ref (ad 1), .ref (ad 2), .ref (ad 3), .ref (ad 4), .ref (ad 5), .ref (ad 6), .ref (ad 7), .ref (ad 8), .ref (ad 9), .int 0, .ref (ad 10), .ref (ad 11), .ref (ad 12), .ref (ad 13), .ref (ad 14), .ref (ad 15), .ref (ad 16)])))) := hD
  generalize g2 : va_up E 0 (.inr (7, [.int 0, .int 0, .int ic, .ref (ad 1), .ref (ad 2), .ref (ad 3), .ref (ad 4), .ref (ad 5), .ref (ad 6), .ref (ad 7), .ref (ad 8), .ref (ad 9), .int 0, .ref (ad 10), .ref (ad 11), .ref (ad 12), .ref (ad 13), .ref (ad 14), .ref (ad 15), .ref (ad 16)])) = E1 at hD hP
  have f3 : E1 0 = .inr (7, [.int 0, .int 0, .int ic, .ref (ad 1), .ref (ad 2), .ref (ad 3), .ref (ad 4), .ref (ad 5), .ref (ad 6), .ref (ad 7), .ref (ad 8), .ref (ad 9), .int 0, .ref (ad 10), .ref (ad 11), .ref (ad 12), .ref (ad 13), .ref (ad 14), .ref (ad 15), .ref (ad 16)]) := by rw [← g2]; exact va_up_self _ _ _
  have f4 : E1 1 = .inl (tc 0, 5, .inl (A 1)) := by rw [← g2, va_up_ne _ _ (by omega)]; exact m1
  have f5 : E1 2 = .inl (tc 0, 60, .inl (A 2)) := by rw [← g2, va_up_ne _ _ (by omega)]; exact m2
  have f6 : E1 3 = .inl (tc 0, 60, .inl (A 3)) := by rw [← g2, va_up_ne _ _ (by omega)]; exact m3
  have f7 : E1 4 = .inl (tc 0, 60, .inl (A 4)) := by rw [← g2, va_up_ne _ _ (by omega)]; exact m4
  have f8 : E1 5 = .inl (tc 0, 5, .inl (A 5)) := by rw [← g2, va_up_ne _ _ (by omega)]; exact m5
  have f9 : E1 6 = .inl (tc 0, 5, .inl (A 6)) := by rw [← g2, va_up_ne _ _ (by omega)]; exact m6
  have f10 : E1 7 = .inl (tc 0, 5, .inl (A 7)) := by rw [← g2, va_up_ne _ _ (by omega)]; exact m7
  have f11 : E1 8 = .inl (tc 0, 3, .inl (A 8)) := by rw [← g2, va_up_ne _ _ (by omega)]; exact m8
  have f12 : E1 9 = .inl (tc 0, 3, .inl (A 9)) := by rw [← g2, va_up_ne _ _ (by omega)]; exact m9
  have f13 : E1 10 = .inl (tc 0, 200, .inl (A 10)) := by rw [← g2, va_up_ne _ _ (by omega)]; exact m10
  have f14 : E1 11 = .inl (tc 0, 200, .inl (A 11)) := by rw [← g2, va_up_ne _ _ (by omega)]; exact m11
  have f15 : E1 12 = .inl (tc 0, 200, .inl (A 12)) := by rw [← g2, va_up_ne _ _ (by omega)]; exact m12
  have f16 : E1 13 = .inl (tc 2, 200, .inl (A 13)) := by rw [← g2, va_up_ne _ _ (by omega)]; exact m13
  have f17 : E1 15 = .inl (tc 0, 8, .inl (A 15)) := by rw [← g2, va_up_ne _ _ (by omega)]; exact m15
  have f18 : E1 16 = .inl (tc 0, 8, .inl (A 16)) := by rw [← g2, va_up_ne _ _ (by omega)]; exact m16
  have f19 : E1 14 = .inl (tc 1, 800, .inr (.inl J)) := by rw [← g2, va_up_ne _ _ (by omega)]; exact m14
  refine lv_iload_n hx hb dMD_partner_5 rfl (lv_at hl 1 rfl) ?_
  refine lv_bipush (v := 8) hx hb dMD_partner_6 (by decide) ?_
  refine x_iE (f := fun k => 0 + k) (x_runS (As := [.int p1, .int 8]) (rest := []) X (c_MD_within l D tc (fun k => ad (0 + k)) (fun k => E1 (0 + k)) p1 8 (n := 8) (by decide)) rfl rfl (by decide) (by decide) w_551 w_9 w_549 w_550 ry_MD_within (ct_pre X hP hD (fr_lt 0 17 0 (by omega)) (fr_inj 0 0)) ct_blind hl.1 (Nat.le_of_ble_eq_true rfl) dMD_partner_8 ⟨Nat.zero_le _, Nat.zero_le _⟩) hD hP hS (fr_lt 0 17 0 (by omega)) (fr_inj 0 0) (fun H locs hD hP hS => ?_)
  refine lv_if_eq (tgt := 23) hx hb dMD_partner_11 rfl (fun h11 => ?_) (fun h11 => ?_)
  · refine lv_iconst (v := (-1)) hx hb dMD_partner_23 (by decide) ?_
    exact q_iret X hlk hr hP hS dMD_partner_24 (⟨rfl, ⟨f3, f4, f5, f6, f7, f8, f9, f10, f11, f12, f13, f14, f15, f16, f19, f17, f18⟩⟩)
  · obtain ⟨j, hj, rfl⟩ := wi_of (n := 8) (by decide) (bi_t h11)
    refine lv_aload_n hx hb dMD_partner_14 rfl (lv_at hl 0 rfl) ?_
    refine g_MD_57 X hP (by omega) (f3) rfl dMD_partner_15 ?_
    refine lv_iload_n hx hb dMD_partner_18 rfl (lv_at hl 1 rfl) ?_
    refine q_iald j X hP (by omega) (f18) (rfl) (by omega) (by decide) dMD_partner_19 ?_
    refine lv_goto (tgt := 24) hx hb dMD_partner_20 rfl ?_
    exact q_iret X hlk hr hP hS dMD_partner_24 (⟨by rw [q3 j hj], ⟨f3, f4, f5, f6, f7, f8, f9, f10, f11, f12, f13, f14, f15, f16, f19, f17, f18⟩⟩)
set_option maxHeartbeats 4000000 in
set_option maxRecDepth 100000 in
theorem c_MD_races (l : Launch) (D : va_G) (tc : Nat → ClassId) (ad : Nat → Nat) (E : Nat → va_E) (th ic : Int32) (A : Nat → Nat → Int32) (J : Nat → Int64) (hM : isMD tc ad E th 0 ic 0 A J) (q2 : ∀ t, t < 8 → A 15 t = -1) : Ct l D tc yMD_races 0 17 ad E [.ref (ad 0)] (fun o E2 => o = .returned (some (.int 0)) ∧ isMD tc ad E2 0 0 ic 0 A J) := by
  refine Ct.ofW (cc := cMD_races) (maxL := 3) (ret := (some .int)) (own := R_MD) (by decide) rfl w_653 (Nat.le_of_ble_eq_true rfl) ?_
  intro p e s m args below meth c ls X hlk hr hD hP hS hl
  have hx := X.1
  have hb := X.2.1
  have hl : lv_has ls 3 [(0, .ref (ad 0))] := hl
  obtain ⟨m0, m1, m2, m3, m4, m5, m6, m7, m8, m9, m10, m11, m12, m13, m14, m15, m16⟩ := hM
  refine lv_aload_n hx hb dMD_races_0 rfl (lv_at hl 0 rfl) ?_
  refine lv_iconst (v := 0) hx hb dMD_races_1 (by decide) ?_
  refine p_MD_63 X hD hP hS (by omega) (m0) rfl rfl (Nat.le_of_ble_eq_true rfl) dMD_races_2 (fun H locs hD hP hS => ?_)
  have hP : va_P D vwCl (wW 17 ad (va_up E 0 (.inr (7, [.int 0, .int 0, .int ic, .ref (ad 1), .ref (ad 2), .ref (ad 3), .ref (ad 4), .ref (ad 5), .ref (ad 6), .ref (ad 7), .ref (ad 8), .ref (ad 9), .int 0, .ref (ad 10), .ref (ad 11), .ref (ad 12), .ref (ad 13), .ref (ad 14), .ref (ad 15), .ref (ad 16)])))) H := hP
  have hD : va_D (Aw 17 ad) (wW 17 ad (va_up E 0 (.inr (7, [.int 0, .int 0, .int ic, .ref (ad 1), .ref (ad 2), .ref (ad 3), .ref (ad 4), .ref (ad 5), .ref (ad 6), .ref (ad 7), .ref (ad 8), .ref (ad 9), .int 0, .ref (ad 10), .ref (ad 11), .ref (ad 12), .ref (ad 13), .ref (ad 14), .ref (ad 15), .ref (ad 16)])))) := hD
  generalize g2 : va_up E 0 (.inr (7, [.int 0, .int 0, .int ic, .ref (ad 1), .ref (ad 2), .ref (ad 3), .ref (ad 4), .ref (ad 5), .ref (ad 6), .ref (ad 7), .ref (ad 8), .ref (ad 9), .int 0, .ref (ad 10), .ref (ad 11), .ref (ad 12), .ref (ad 13), .ref (ad 14), .ref (ad 15), .ref (ad 16)])) = E1 at hD hP
  have f3 : E1 0 = .inr (7, [.int 0, .int 0, .int ic, .ref (ad 1), .ref (ad 2), .ref (ad 3), .ref (ad 4), .ref (ad 5), .ref (ad 6), .ref (ad 7), .ref (ad 8), .ref (ad 9), .int 0, .ref (ad 10), .ref (ad 11), .ref (ad 12), .ref (ad 13), .ref (ad 14), .ref (ad 15), .ref (ad 16)]) := by rw [← g2]; exact va_up_self _ _ _
  have f4 : E1 1 = .inl (tc 0, 5, .inl (A 1)) := by rw [← g2, va_up_ne _ _ (by omega)]; exact m1
  have f5 : E1 2 = .inl (tc 0, 60, .inl (A 2)) := by rw [← g2, va_up_ne _ _ (by omega)]; exact m2
  have f6 : E1 3 = .inl (tc 0, 60, .inl (A 3)) := by rw [← g2, va_up_ne _ _ (by omega)]; exact m3
  have f7 : E1 4 = .inl (tc 0, 60, .inl (A 4)) := by rw [← g2, va_up_ne _ _ (by omega)]; exact m4
  have f8 : E1 5 = .inl (tc 0, 5, .inl (A 5)) := by rw [← g2, va_up_ne _ _ (by omega)]; exact m5
  have f9 : E1 6 = .inl (tc 0, 5, .inl (A 6)) := by rw [← g2, va_up_ne _ _ (by omega)]; exact m6
  have f10 : E1 7 = .inl (tc 0, 5, .inl (A 7)) := by rw [← g2, va_up_ne _ _ (by omega)]; exact m7
  have f11 : E1 8 = .inl (tc 0, 3, .inl (A 8)) := by rw [← g2, va_up_ne _ _ (by omega)]; exact m8
  have f12 : E1 9 = .inl (tc 0, 3, .inl (A 9)) := by rw [← g2, va_up_ne _ _ (by omega)]; exact m9
  have f13 : E1 10 = .inl (tc 0, 200, .inl (A 10)) := by rw [← g2, va_up_ne _ _ (by omega)]; exact m10
  have f14 : E1 11 = .inl (tc 0, 200, .inl (A 11)) := by rw [← g2, va_up_ne _ _ (by omega)]; exact m11
  have f15 : E1 12 = .inl (tc 0, 200, .inl (A 12)) := by rw [← g2, va_up_ne _ _ (by omega)]; exact m12
  have f16 : E1 13 = .inl (tc 2, 200, .inl (A 13)) := by rw [← g2, va_up_ne _ _ (by omega)]; exact m13
  have f17 : E1 15 = .inl (tc 0, 8, .inl (A 15)) := by rw [← g2, va_up_ne _ _ (by omega)]; exact m15
  have f18 : E1 16 = .inl (tc 0, 8, .inl (A 16)) := by rw [← g2, va_up_ne _ _ (by omega)]; exact m16
  have f19 : E1 14 = .inl (tc 1, 800, .inr (.inl J)) := by rw [← g2, va_up_ne _ _ (by omega)]; exact m14
  refine lv_iconst (v := 0) hx hb dMD_races_5 (by decide) ?_
  refine lv_istore_n hx hb dMD_races_6 rfl hl (by decide) rfl (fun ls hl => ?_)
  have hl : lv_has ls 3 [(1, .int 0), (0, .ref (ad 0))] := hl
  refine lv_iconst (v := 0) hx hb dMD_races_7 (by decide) ?_
  refine lv_istore_n hx hb dMD_races_8 rfl hl (by decide) rfl (fun ls hl => ?_)
  have hl : lv_has ls 3 [(2, .int 0), (1, .int 0), (0, .ref (ad 0))] := hl
  have loop : ∀ (r i : Nat)  (H : Heap) (locs : List Loc) (ls : Array Slot) (F : Nat → va_E), i + r = 8 → isMD tc ad F 0 0 ic 0 A J → va_D (Aw 17 ad) (wW 17 ad F) → va_P D vwCl (wW 17 ad F) H → va_S (Aw 17 ad) s.heap H locs → lv_has ls 3 [(2, .int (nI i)), (1, .int 0), (0, .ref (ad 0))] → W p l e (rmD 0) s m args below meth c H locs 0 0 (XQ below (CtQ D 17 ad (fun o E2 => o = .returned (some (.int 0)) ∧ isMD tc ad E2 0 0 ic 0 A J)) args s 0 0 (Aw 17 ad)) (F0 m 9 ls []) := by
    intro r
    induction r with
    | zero =>
      intro i  H locs ls F hi hM hD hP hS hl
      have hM0 := hM
      obtain ⟨m0, m1, m2, m3, m4, m5, m6, m7, m8, m9, m10, m11, m12, m13, m14, m15, m16⟩ := hM
      refine lv_iload_n hx hb dMD_races_9 rfl (lv_at hl 0 rfl) ?_
      refine lv_bipush (v := 8) hx hb dMD_races_10 (by decide) ?_
      refine lv_icmp_ge (tgt := 38) hx hb dMD_races_12 rfl (fun h12 => ?_) (fun h12 => absurd (nI_le (a := 8) (b := i) (by omega) (by omega)) h12)
      refine lv_iload_n hx hb dMD_races_38 rfl (lv_at hl 1 rfl) ?_
      exact q_iret X hlk hr hP hS dMD_races_39 (⟨rfl, hM0⟩)
    | succ r ih =>
      intro i  H locs ls F hi hM hD hP hS hl
      have hM0 := hM
      obtain ⟨m0, m1, m2, m3, m4, m5, m6, m7, m8, m9, m10, m11, m12, m13, m14, m15, m16⟩ := hM
      refine lv_iload_n hx hb dMD_races_9 rfl (lv_at hl 0 rfl) ?_
      refine lv_bipush (v := 8) hx hb dMD_races_10 (by decide) ?_
      refine lv_icmp_ge (tgt := 38) hx hb dMD_races_12 rfl (fun h12 => absurd h12 (nI_ge (a := i) (b := 8) (by omega) (by omega))) (fun h12 => ?_)
      refine lv_aload_n hx hb dMD_races_15 rfl (lv_at hl 2 rfl) ?_
      refine g_MD_54 X hP (by omega) (m0) rfl dMD_races_16 ?_
      refine lv_iload_n hx hb dMD_races_19 rfl (lv_at hl 0 rfl) ?_
      refine q_iald i X hP (by omega) (m15) (rfl) (by omega) (by decide) dMD_races_20 ?_
      refine lv_if_lt (tgt := 30) hx hb dMD_races_21 rfl (fun h21 => ?_) (fun h21 => absurd (by rw [q2 i (by omega)]; decide) h21)
      refine lv_iload_n hx hb dMD_races_30 rfl (lv_at hl 1 rfl) ?_
      refine lv_istore_n hx hb dMD_races_31 rfl hl (by decide) rfl (fun ls hl => ?_)
      have hl : lv_has ls 3 [(1, .int 0), (2, .int (nI i)), (0, .ref (ad 0))] := hl
      refine lv_iinc (k := 1) (v := nI (i + 1)) hx hb dMD_races_32 hl rfl (nI_1 i) (by decide) rfl (fun ls hl => ?_)
      have hl : lv_has ls 3 [(2, .int (nI (i + 1))), (1, .int 0), (0, .ref (ad 0))] := hl
      refine lv_goto (tgt := 9) hx hb dMD_races_35 rfl ?_
      exact ih (i + 1) _ _ _ _ (by omega) ⟨m0, m1, m2, m3, m4, m5, m6, m7, m8, m9, m10, m11, m12, m13, m14, m15, m16⟩ hD hP hS hl
  exact loop 8 0 _ _ _ _ (by omega) ⟨f3, f4, f5, f6, f7, f8, f9, f10, f11, f12, f13, f14, f15, f16, f19, f17, f18⟩ hD hP hS hl
set_option maxHeartbeats 4000000 in
set_option maxRecDepth 100000 in
theorem c_MD_again (l : Launch) (D : va_G) (tc : Nat → ClassId) (ad : Nat → Nat) (E : Nat → va_E) (th ic : Int32) (A : Nat → Nat → Int32) (J : Nat → Int64) (k cb : Int32) (hM : isMD tc ad E th 0 ic 0 A J) : Ct l D tc yMD_again 0 17 ad E [.ref (ad 0), .int k, .int cb] (fun o E2 => o = .returned (some (.int (if k = 0 then 0 else -1))) ∧ isMD tc ad E2 0 0 ic 0 A J) := by
  refine Ct.ofW (cc := cMD_again) (maxL := 5) (ret := (some .int)) (own := R_MD) (by decide) rfl w_657 (Nat.le_of_ble_eq_true rfl) ?_
  intro p e s m args below meth c ls X hlk hr hD hP hS hl
  have hx := X.1
  have hb := X.2.1
  have hl : lv_has ls 5 [(0, .ref (ad 0)), (1, .int k), (2, .int cb)] := hl
  obtain ⟨m0, m1, m2, m3, m4, m5, m6, m7, m8, m9, m10, m11, m12, m13, m14, m15, m16⟩ := hM
  refine lv_aload_n hx hb dMD_again_0 rfl (lv_at hl 0 rfl) ?_
  refine lv_iconst (v := 0) hx hb dMD_again_1 (by decide) ?_
  refine p_MD_63 X hD hP hS (by omega) (m0) rfl rfl (Nat.le_of_ble_eq_true rfl) dMD_again_2 (fun H locs hD hP hS => ?_)
  have hP : va_P D vwCl (wW 17 ad (va_up E 0 (.inr (7, [.int 0, .int 0, .int ic, .ref (ad 1), .ref (ad 2), .ref (ad 3), .ref (ad 4), .ref (ad 5), .ref (ad 6), .ref (ad 7), .ref (ad 8), .ref (ad 9), .int 0, .ref (ad 10), .ref (ad 11), .ref (ad 12), .ref (ad 13), .ref (ad 14), .ref (ad 15), .ref (ad 16)])))) H := hP
  have hD : va_D (Aw 17 ad) (wW 17 ad (va_up E 0 (.inr (7, [.int 0, .int 0, .int ic, .ref (ad 1), .ref (ad 2), .ref (ad 3), .ref (ad 4), .ref (ad 5), .ref (ad 6), .ref (ad 7), .ref (ad 8), .ref (ad 9), .int 0, .ref (ad 10), .ref (ad 11), .ref (ad 12), .ref (ad 13), .ref (ad 14), .ref (ad 15), .ref (ad 16)])))) := hD
  generalize g2 : va_up E 0 (.inr (7, [.int 0, .int 0, .int ic, .ref (ad 1), .ref (ad 2), .ref (ad 3), .ref (ad 4), .ref (ad 5), .ref (ad 6), .ref (ad 7), .ref (ad 8), .ref (ad 9), .int 0, .ref (ad 10), .ref (ad 11), .ref (ad 12), .ref (ad 13), .ref (ad 14), .ref (ad 15), .ref (ad 16)])) = E1 at hD hP
  have f3 : E1 0 = .inr (7, [.int 0, .int 0, .int ic, .ref (ad 1), .ref (ad 2), .ref (ad 3), .ref (ad 4), .ref (ad 5), .ref (ad 6), .ref (ad 7), .ref (ad 8), .ref (ad 9), .int 0, .ref (ad 10), .ref (ad 11), .ref (ad 12), .ref (ad 13), .ref (ad 14), .ref (ad 15), .ref (ad 16)]) := by rw [← g2]; exact va_up_self _ _ _
  have f4 : E1 1 = .inl (tc 0, 5, .inl (A 1)) := by rw [← g2, va_up_ne _ _ (by omega)]; exact m1
  have f5 : E1 2 = .inl (tc 0, 60, .inl (A 2)) := by rw [← g2, va_up_ne _ _ (by omega)]; exact m2
  have f6 : E1 3 = .inl (tc 0, 60, .inl (A 3)) := by rw [← g2, va_up_ne _ _ (by omega)]; exact m3
  have f7 : E1 4 = .inl (tc 0, 60, .inl (A 4)) := by rw [← g2, va_up_ne _ _ (by omega)]; exact m4
  have f8 : E1 5 = .inl (tc 0, 5, .inl (A 5)) := by rw [← g2, va_up_ne _ _ (by omega)]; exact m5
  have f9 : E1 6 = .inl (tc 0, 5, .inl (A 6)) := by rw [← g2, va_up_ne _ _ (by omega)]; exact m6
  have f10 : E1 7 = .inl (tc 0, 5, .inl (A 7)) := by rw [← g2, va_up_ne _ _ (by omega)]; exact m7
  have f11 : E1 8 = .inl (tc 0, 3, .inl (A 8)) := by rw [← g2, va_up_ne _ _ (by omega)]; exact m8
  have f12 : E1 9 = .inl (tc 0, 3, .inl (A 9)) := by rw [← g2, va_up_ne _ _ (by omega)]; exact m9
  have f13 : E1 10 = .inl (tc 0, 200, .inl (A 10)) := by rw [← g2, va_up_ne _ _ (by omega)]; exact m10
  have f14 : E1 11 = .inl (tc 0, 200, .inl (A 11)) := by rw [← g2, va_up_ne _ _ (by omega)]; exact m11
  have f15 : E1 12 = .inl (tc 0, 200, .inl (A 12)) := by rw [← g2, va_up_ne _ _ (by omega)]; exact m12
  have f16 : E1 13 = .inl (tc 2, 200, .inl (A 13)) := by rw [← g2, va_up_ne _ _ (by omega)]; exact m13
  have f17 : E1 15 = .inl (tc 0, 8, .inl (A 15)) := by rw [← g2, va_up_ne _ _ (by omega)]; exact m15
  have f18 : E1 16 = .inl (tc 0, 8, .inl (A 16)) := by rw [← g2, va_up_ne _ _ (by omega)]; exact m16
  have f19 : E1 14 = .inl (tc 1, 800, .inr (.inl J)) := by rw [← g2, va_up_ne _ _ (by omega)]; exact m14
  refine lv_iload_n hx hb dMD_again_5 rfl (lv_at hl 1 rfl) ?_
  refine lv_if_lt (tgt := 17) hx hb dMD_again_6 rfl (fun h6 => ?_) (fun h6 => ?_)
  · refine lv_iconst (v := (-1)) hx hb dMD_again_17 (by decide) ?_
    exact q_iret X hlk hr hP hS dMD_again_18 (⟨by rw [if_neg (z_ne1 h6)], ⟨f3, f4, f5, f6, f7, f8, f9, f10, f11, f12, f13, f14, f15, f16, f19, f17, f18⟩⟩)
  · refine lv_iload_n hx hb dMD_again_9 rfl (lv_at hl 1 rfl) ?_
    refine lv_aload_n hx hb dMD_again_10 rfl (lv_at hl 0 rfl) ?_
    refine g_MD_78 X hP (by omega) (f3) rfl dMD_again_11 ?_
    refine lv_icmp_le (tgt := 19) hx hb dMD_again_14 rfl (fun h14 => ?_) (fun h14 => ?_)
    · refine lv_iconst (v := 0) hx hb dMD_again_19 (by decide) ?_
      refine lv_istore_n hx hb dMD_again_20 rfl hl (by decide) rfl (fun ls hl => ?_)
      have hl : lv_has ls 5 [(3, .int 0), (0, .ref (ad 0)), (1, .int k), (2, .int cb)] := hl
      refine lv_iconst (v := 0) hx hb dMD_again_21 (by decide) ?_
      refine lv_istore hx hb dMD_again_22 hl (by decide) rfl (fun ls hl => ?_)
      have hl : lv_has ls 5 [(4, .int 0), (3, .int 0), (0, .ref (ad 0)), (1, .int k), (2, .int cb)] := hl
      refine lv_iload hx hb dMD_again_24 (lv_at hl 0 rfl) ?_
      refine lv_iload_n hx hb dMD_again_26 rfl (lv_at hl 3 rfl) ?_
      refine lv_icmp_ge (tgt := 81) hx hb dMD_again_27 rfl (fun h27 => ?_) (fun h27 => absurd (by rw [z_eq h6 h14]; decide) h27)
      refine lv_iload_n hx hb dMD_again_81 rfl (lv_at hl 1 rfl) ?_
      exact q_iret X hlk hr hP hS dMD_again_82 (⟨by rw [if_pos (z_eq h6 h14)], ⟨f3, f4, f5, f6, f7, f8, f9, f10, f11, f12, f13, f14, f15, f16, f19, f17, f18⟩⟩)
    · refine lv_iconst (v := (-1)) hx hb dMD_again_17 (by decide) ?_
      exact q_iret X hlk hr hP hS dMD_again_18 (⟨by rw [if_neg (z_ne2 h14)], ⟨f3, f4, f5, f6, f7, f8, f9, f10, f11, f12, f13, f14, f15, f16, f19, f17, f18⟩⟩)
set_option maxHeartbeats 4000000 in
set_option maxRecDepth 100000 in
theorem c1_MD_isBad (l : Launch) (D : va_G) (tc : Nat → ClassId) (ad : Nat → Nat) (E : Nat → va_E) (th ic : Int32) (A : Nat → Nat → Int32) (J : Nat → Int64) (hM : isMD tc ad E th 0 ic 0 A J) (q1 : ∀ t, t < 5 → A 1 t = 0) : Ct l D tc yMD_isBad 0 17 ad E [.ref (ad 0)] (fun o E2 => o = .returned (some (.int 1)) ∧ E2 = E) := by
  refine Ct.ofW (cc := cMD_isBad) (maxL := 7) (ret := (some .boolean)) (own := R_MD) (by decide) rfl w_567 (Nat.le_of_ble_eq_true rfl) ?_
  intro p e s m args below meth c ls X hlk hr hD hP hS hl
  have hx := X.1
  have hb := X.2.1
  have hl : lv_has ls 7 [(0, .ref (ad 0))] := hl
  obtain ⟨m0, m1, m2, m3, m4, m5, m6, m7, m8, m9, m10, m11, m12, m13, m14, m15, m16⟩ := hM
  refine lv_aload_n hx hb dMD_isBad_0 rfl (lv_at hl 0 rfl) ?_
  refine g_MD_7 X hP (by omega) (m0) rfl dMD_isBad_1 ?_
  refine lv_iconst (v := 0) hx hb dMD_isBad_4 (by decide) ?_
  refine q_iald 0 X hP (by omega) (m1) (rfl) (by decide) (by decide) dMD_isBad_5 ?_
  refine lv_if_ne (tgt := 13) hx hb dMD_isBad_6 rfl (fun h6 => absurd h6 (fun h => h (q1 0 (by decide)))) (fun h6 => ?_)
  refine lv_iconst (v := 1) hx hb dMD_isBad_9 (by decide) ?_
  refine lv_goto (tgt := 14) hx hb dMD_isBad_10 rfl ?_
  refine lv_istore_n hx hb dMD_isBad_14 rfl hl (by decide) rfl (fun ls hl => ?_)
  have hl : lv_has ls 7 [(1, .int 1), (0, .ref (ad 0))] := hl
  refine lv_iconst (v := 0) hx hb dMD_isBad_15 (by decide) ?_
  refine lv_istore_n hx hb dMD_isBad_16 rfl hl (by decide) rfl (fun ls hl => ?_)
  have hl : lv_has ls 7 [(2, .int 0), (1, .int 1), (0, .ref (ad 0))] := hl
  have loop : ∀ (r i : Nat)  (H : Heap) (locs : List Loc) (ls : Array Slot), i + r = 5 → va_D (Aw 17 ad) (wW 17 ad E) → va_P D vwCl (wW 17 ad E) H → va_S (Aw 17 ad) s.heap H locs → lv_has ls 7 [(2, .int (nI i)), (1, .int 1), (0, .ref (ad 0))] → W p l e (rmD 0) s m args below meth c H locs 0 0 (XQ below (CtQ D 17 ad (fun o E2 => o = .returned (some (.int 1)) ∧ E2 = E)) args s 0 0 (Aw 17 ad)) (F0 m 17 ls []) := by
    intro r
    induction r with
    | zero =>
      intro i  H locs ls hi hD hP hS hl
      refine lv_iload_n hx hb dMD_isBad_17 rfl (lv_at hl 0 rfl) ?_
      refine lv_iconst (v := 5) hx hb dMD_isBad_18 (by decide) ?_
      refine lv_icmp_ge (tgt := 159) hx hb dMD_isBad_19 rfl (fun h19 => ?_) (fun h19 => absurd (nI_le (a := 5) (b := i) (by omega) (by omega)) h19)
      refine lv_iload_n hx hb dMD_isBad_159 rfl (lv_at hl 1 rfl) ?_
      exact q_zret X hlk hr (by decide) hP hS dMD_isBad_160 (⟨rfl, rfl⟩)
    | succ r ih =>
      intro i  H locs ls hi hD hP hS hl
      refine lv_iload_n hx hb dMD_isBad_17 rfl (lv_at hl 0 rfl) ?_
      refine lv_iconst (v := 5) hx hb dMD_isBad_18 (by decide) ?_
      refine lv_icmp_ge (tgt := 159) hx hb dMD_isBad_19 rfl (fun h19 => absurd h19 (nI_ge (a := i) (b := 5) (by omega) (by omega))) (fun h19 => ?_)
      refine lv_iconst (v := 0) hx hb dMD_isBad_22 (by decide) ?_
      refine lv_istore_n hx hb dMD_isBad_23 rfl hl (by decide) rfl (fun ls hl => ?_)
      have hl : lv_has ls 7 [(3, .int 0), (2, .int (nI i)), (1, .int 1), (0, .ref (ad 0))] := hl
      refine lv_iload_n hx hb dMD_isBad_24 rfl (lv_at hl 0 rfl) ?_
      refine lv_aload_n hx hb dMD_isBad_25 rfl (lv_at hl 3 rfl) ?_
      refine g_MD_7 X hP (by omega) (m0) rfl dMD_isBad_26 ?_
      refine lv_iload_n hx hb dMD_isBad_29 rfl (lv_at hl 1 rfl) ?_
      refine q_iald i X hP (by omega) (m1) (rfl) (by omega) (by decide) dMD_isBad_30 ?_
      refine lv_icmp_ge (tgt := 153) hx hb dMD_isBad_31 rfl (fun h31 => ?_) (fun h31 => absurd (by rw [q1 i (by omega)]; decide) h31)
      refine lv_iinc (k := 1) (v := nI (i + 1)) hx hb dMD_isBad_153 hl rfl (nI_1 i) (by decide) rfl (fun ls hl => ?_)
      have hl : lv_has ls 7 [(2, .int (nI (i + 1))), (3, .int 0), (1, .int 1), (0, .ref (ad 0))] := hl
      refine lv_goto (tgt := 17) hx hb dMD_isBad_156 rfl ?_
      exact ih (i + 1) _ _ _ (by omega) hD hP hS (lv_sub hl [0, 2, 3] rfl)
  exact loop 5 0 _ _ _ (by omega) hD hP hS hl
set_option maxHeartbeats 4000000 in
set_option maxRecDepth 100000 in
theorem c1_MD_start (l : Launch) (D : va_G) (tc : Nat → ClassId) (ad : Nat → Nat) (E : Nat → va_E) (th ic : Int32) (A : Nat → Nat → Int32) (J : Nat → Int64) (cb : Int32) (hM : isMD tc ad E th 0 ic 0 A J) (q1 : ∀ t, t < 5 → A 1 t = 0) : Ct l D tc yMD_start 1 17 ad E [.ref (ad 0), .int cb] (fun o E2 => o = .returned (some (.int 0)) ∧ isMD tc ad E2 2 0 ic 0 A J) := by
  refine Ct.ofW (cc := cMD_start) (maxL := 4) (ret := (some .int)) (own := R_MD) (by decide) rfl w_559 (Nat.le_of_ble_eq_true rfl) ?_
  intro p e s m args below meth c ls X hlk hr hD hP hS hl
  have hx := X.1
  have hb := X.2.1
  have hl : lv_has ls 4 [(0, .ref (ad 0)), (1, .int cb)] := hl
  have hM0 := hM
  obtain ⟨m0, m1, m2, m3, m4, m5, m6, m7, m8, m9, m10, m11, m12, m13, m14, m15, m16⟩ := hM
  refine lv_aload_n hx hb dMD_start_0 rfl (lv_at hl 0 rfl) ?_
  refine g_MD_71 X hP (by omega) (m0) rfl dMD_start_1 ?_
  refine lv_if_eq (tgt := 13) hx hb dMD_start_4 rfl (fun h4 => ?_) (fun h4 => absurd (rfl) h4)
  refine lv_aload_n hx hb dMD_start_13 rfl (lv_at hl 0 rfl) ?_
  refine x_iE (f := fun k => 0 + k) (x_runV (C := R_MD) (As := []) (rest := []) X (c1_MD_isBad l D tc (fun k => ad (0 + k)) (fun k => E (0 + k)) th ic A J (by simpa only [Nat.zero_add] using hM0) q1) rfl rfl (by decide) (by decide) w_567 w_9 w_564 w_566 sel_MD_isBad ry_MD_isBad (x_recv X hP (by omega) (m0) rfl) (ct_pre X hP hD (fr_lt 17 17 0 (by omega)) (fr_inj 17 0)) ct_blind hl.1 (Nat.le_of_ble_eq_true rfl) dMD_start_14 ⟨Nat.zero_le _, Nat.zero_le _⟩) hD hP hS (fr_lt 17 17 0 (by omega)) (fr_inj 17 0) (fun H locs hD hP hS => ?_)
  refine lv_if_eq (tgt := 26) hx hb dMD_start_17 rfl (fun h17 => absurd h17 (by decide)) (fun h17 => ?_)
  refine lv_aload_n hx hb dMD_start_20 rfl (lv_at hl 0 rfl) ?_
  refine lv_iconst (v := 2) hx hb dMD_start_21 (by decide) ?_
  refine x_i (f := fun k => 0 + k) (x_runV (C := R_MD) (As := [.int 2]) (rest := []) X (c_MD_raise l D tc (fun k => ad (0 + k)) (fun k => E (0 + k)) th 0 ic 0 A J 2 (by simpa only [Nat.zero_add] using hM0)) rfl rfl (by decide) (by decide) w_563 w_9 w_560 w_562 sel_MD_raise ry_MD_raise (x_recv X hP (by omega) (m0) rfl) (ct_pre X hP hD (fr_lt 17 17 0 (by omega)) (fr_inj 17 0)) ct_blind hl.1 (Nat.le_of_ble_eq_true rfl) dMD_start_22 ⟨Nat.zero_le _, Nat.zero_le _⟩) hD hP hS (fr_lt 17 17 0 (by omega)) (fr_inj 17 0) (fun o E1 h => ⟨_, h.1⟩) (fun r5 E1 H locs q4 hD hP hS => ?_)
  obtain ⟨q4a, q4m⟩ := q4
  generalize g2 : wU 17 (fun k => 0 + k) E E1 = E3 at hD hP
  exact q_iret X hlk hr hP hS dMD_start_25 (by rw [← g2]; exact ⟨q4a, isMD.back q4m⟩)
set_option maxHeartbeats 4000000 in
set_option maxRecDepth 100000 in
theorem c1_MD_step (l : Launch) (D : va_G) (tc : Nat → ClassId) (ad : Nat → Nat) (E : Nat → va_E) (th ic : Int32) (A : Nat → Nat → Int32) (J : Nat → Int64) (t : Int32) (hM : isMD tc ad E th 0 ic 0 A J) : Ct l D tc yMD_step 1 17 ad E [.ref (ad 0), .int t] (fun o E2 => o = .returned (some (.int 0)) ∧ isMD tc ad E2 (if wi t 5 = true then 2 else 1) 0 ic 0 A J) := by
  refine Ct.ofW (cc := cMD_step) (maxL := 6) (ret := (some .int)) (own := R_MD) (by decide) rfl w_571 (Nat.le_of_ble_eq_true rfl) ?_
  intro p e s m args below meth c ls X hlk hr hD hP hS hl
  have hx := X.1
  have hb := X.2.1
  have hl : lv_has ls 6 [(0, .ref (ad 0)), (1, .int t)] := hl
  have hM0 := hM
  obtain ⟨m0, m1, m2, m3, m4, m5, m6, m7, m8, m9, m10, m11, m12, m13, m14, m15, m16⟩ := hM
  refine lv_iload_n hx hb dMD_step_0 rfl (lv_at hl 1 rfl) ?_
  refine lv_iconst (v := 5) hx hb dMD_step_1 (by decide) ?_
  refine x_iE (f := fun k => 0 + k) (x_runS (As := [.int t, .int 5]) (rest := []) X (c_MD_within l D tc (fun k => ad (0 + k)) (fun k => E (0 + k)) t 5 (n := 5) (by decide)) rfl rfl (by decide) (by decide) w_551 w_9 w_549 w_550 ry_MD_within (ct_pre X hP hD (fr_lt 0 17 0 (by omega)) (fr_inj 0 0)) ct_blind hl.1 (Nat.le_of_ble_eq_true rfl) dMD_step_2 ⟨Nat.zero_le _, Nat.zero_le _⟩) hD hP hS (fr_lt 0 17 0 (by omega)) (fr_inj 0 0) (fun H locs hD hP hS => ?_)
  refine lv_if_ne (tgt := 14) hx hb dMD_step_5 rfl (fun h5 => ?_) (fun h5 => ?_)
  · refine lv_aload_n hx hb dMD_step_14 rfl (lv_at hl 0 rfl) ?_
    refine g_MD_71 X hP (by omega) (m0) rfl dMD_step_15 ?_
    refine lv_if_eq (tgt := 31) hx hb dMD_step_18 rfl (fun h18 => ?_) (fun h18 => absurd (rfl) h18)
    refine lv_aload_n hx hb dMD_step_31 rfl (lv_at hl 0 rfl) ?_
    refine lv_iconst (v := 2) hx hb dMD_step_32 (by decide) ?_
    refine x_i (f := fun k => 0 + k) (x_runV (C := R_MD) (As := [.int 2]) (rest := []) X (c_MD_raise l D tc (fun k => ad (0 + k)) (fun k => E (0 + k)) th 0 ic 0 A J 2 (by simpa only [Nat.zero_add] using hM0)) rfl rfl (by decide) (by decide) w_563 w_9 w_560 w_562 sel_MD_raise ry_MD_raise (x_recv X hP (by omega) (m0) rfl) (ct_pre X hP hD (fr_lt 17 17 0 (by omega)) (fr_inj 17 0)) ct_blind hl.1 (Nat.le_of_ble_eq_true rfl) dMD_step_33 ⟨Nat.zero_le _, Nat.zero_le _⟩) hD hP hS (fr_lt 17 17 0 (by omega)) (fr_inj 17 0) (fun o E1 h => ⟨_, h.1⟩) (fun r5 E1 H locs q4 hD hP hS => ?_)
    obtain ⟨q4a, q4m⟩ := q4
    generalize g2 : wU 17 (fun k => 0 + k) E E1 = E3 at hD hP
    exact q_iret X hlk hr hP hS dMD_step_36 (by rw [← g2]; exact ⟨q4a, by rw [if_pos (bi_t h5)]; exact isMD.back q4m⟩)
  · refine lv_aload_n hx hb dMD_step_8 rfl (lv_at hl 0 rfl) ?_
    refine lv_iconst (v := 1) hx hb dMD_step_9 (by decide) ?_
    refine x_i (f := fun k => 0 + k) (x_runV (C := R_MD) (As := [.int 1]) (rest := []) X (c_MD_raise l D tc (fun k => ad (0 + k)) (fun k => E (0 + k)) th 0 ic 0 A J 1 (by simpa only [Nat.zero_add] using hM0)) rfl rfl (by decide) (by decide) w_563 w_9 w_560 w_562 sel_MD_raise ry_MD_raise (x_recv X hP (by omega) (m0) rfl) (ct_pre X hP hD (fr_lt 17 17 0 (by omega)) (fr_inj 17 0)) ct_blind hl.1 (Nat.le_of_ble_eq_true rfl) dMD_step_10 ⟨Nat.zero_le _, Nat.zero_le _⟩) hD hP hS (fr_lt 17 17 0 (by omega)) (fr_inj 17 0) (fun o E1 h => ⟨_, h.1⟩) (fun r10 E6 H locs q9 hD hP hS => ?_)
    obtain ⟨q9a, q9m⟩ := q9
    generalize g7 : wU 17 (fun k => 0 + k) E E6 = E8 at hD hP
    exact q_iret X hlk hr hP hS dMD_step_13 (by rw [← g7]; exact ⟨q9a, by rw [if_neg (by rw [bi_f h5]; decide)]; exact isMD.back q9m⟩)
end
section
theorem dPG_isBad_0 : decode cPG_isBad 0 = .ok (.iconst 0, 1) := by decide +kernel
theorem dPG_isBad_1 : decode cPG_isBad 1 = .ok (.istore_n 2, 1) := by decide +kernel
theorem dPG_isBad_2 : decode cPG_isBad 2 = .ok (.iload_n 2, 1) := by decide +kernel
theorem dPG_isBad_3 : decode cPG_isBad 3 = .ok (.aload_n 0, 1) := by decide +kernel
theorem dPG_isBad_4 : decode cPG_isBad 4 = .ok (.getfield 21, 3) := by decide +kernel
theorem dPG_isBad_7 : decode cPG_isBad 7 = .ok (.if_icmp .ge 84, 3) := by decide +kernel
theorem dPG_isBad_10 : decode cPG_isBad 10 = .ok (.aload_n 0, 1) := by decide +kernel
theorem dPG_isBad_11 : decode cPG_isBad 11 = .ok (.getfield 9, 3) := by decide +kernel
theorem dPG_isBad_14 : decode cPG_isBad 14 = .ok (.iload_n 2, 1) := by decide +kernel
theorem dPG_isBad_15 : decode cPG_isBad 15 = .ok (.iaload, 1) := by decide +kernel
theorem dPG_isBad_16 : decode cPG_isBad 16 = .ok (.bipush 12, 2) := by decide +kernel
theorem dPG_isBad_18 : decode cPG_isBad 18 = .ok (.if_icmp .ne 24, 3) := by decide +kernel
theorem dPG_isBad_21 : decode cPG_isBad 21 = .ok (.aload_n 0, 1) := by decide +kernel
theorem dPG_isBad_22 : decode cPG_isBad 22 = .ok (.getfield 18, 3) := by decide +kernel
theorem dPG_isBad_25 : decode cPG_isBad 25 = .ok (.iload_n 2, 1) := by decide +kernel
theorem dPG_isBad_26 : decode cPG_isBad 26 = .ok (.iaload, 1) := by decide +kernel
theorem dPG_isBad_27 : decode cPG_isBad 27 = .ok (.ifCond .lt 13, 3) := by decide +kernel
theorem dPG_isBad_30 : decode cPG_isBad 30 = .ok (.aload_n 0, 1) := by decide +kernel
theorem dPG_isBad_31 : decode cPG_isBad 31 = .ok (.getfield 18, 3) := by decide +kernel
theorem dPG_isBad_34 : decode cPG_isBad 34 = .ok (.iload_n 2, 1) := by decide +kernel
theorem dPG_isBad_35 : decode cPG_isBad 35 = .ok (.iaload, 1) := by decide +kernel
theorem dPG_isBad_36 : decode cPG_isBad 36 = .ok (.iload_n 2, 1) := by decide +kernel
theorem dPG_isBad_37 : decode cPG_isBad 37 = .ok (.if_icmp .lt 5, 3) := by decide +kernel
theorem dPG_isBad_40 : decode cPG_isBad 40 = .ok (.iconst 1, 1) := by decide +kernel
theorem dPG_isBad_41 : decode cPG_isBad 41 = .ok (.ireturn, 1) := by decide +kernel
theorem dPG_isBad_42 : decode cPG_isBad 42 = .ok (.aload_n 0, 1) := by decide +kernel
theorem dPG_isBad_43 : decode cPG_isBad 43 = .ok (.getfield 9, 3) := by decide +kernel
theorem dPG_isBad_46 : decode cPG_isBad 46 = .ok (.iload_n 2, 1) := by decide +kernel
theorem dPG_isBad_47 : decode cPG_isBad 47 = .ok (.iaload, 1) := by decide +kernel
theorem dPG_isBad_48 : decode cPG_isBad 48 = .ok (.bipush 6, 2) := by decide +kernel
theorem dPG_isBad_50 : decode cPG_isBad 50 = .ok (.if_icmp .eq 14, 3) := by decide +kernel
theorem dPG_isBad_53 : decode cPG_isBad 53 = .ok (.aload_n 0, 1) := by decide +kernel
theorem dPG_isBad_54 : decode cPG_isBad 54 = .ok (.getfield 9, 3) := by decide +kernel
theorem dPG_isBad_57 : decode cPG_isBad 57 = .ok (.iload_n 2, 1) := by decide +kernel
theorem dPG_isBad_58 : decode cPG_isBad 58 = .ok (.iaload, 1) := by decide +kernel
theorem dPG_isBad_59 : decode cPG_isBad 59 = .ok (.bipush 7, 2) := by decide +kernel
theorem dPG_isBad_61 : decode cPG_isBad 61 = .ok (.if_icmp .ne 24, 3) := by decide +kernel
theorem dPG_isBad_64 : decode cPG_isBad 64 = .ok (.aload_n 0, 1) := by decide +kernel
theorem dPG_isBad_65 : decode cPG_isBad 65 = .ok (.getfield 15, 3) := by decide +kernel
theorem dPG_isBad_68 : decode cPG_isBad 68 = .ok (.iload_n 2, 1) := by decide +kernel
theorem dPG_isBad_69 : decode cPG_isBad 69 = .ok (.iaload, 1) := by decide +kernel
theorem dPG_isBad_70 : decode cPG_isBad 70 = .ok (.iload_n 1, 1) := by decide +kernel
theorem dPG_isBad_71 : decode cPG_isBad 71 = .ok (.if_icmp .eq 12, 3) := by decide +kernel
theorem dPG_isBad_74 : decode cPG_isBad 74 = .ok (.aload_n 0, 1) := by decide +kernel
theorem dPG_isBad_75 : decode cPG_isBad 75 = .ok (.getfield 15, 3) := by decide +kernel
theorem dPG_isBad_78 : decode cPG_isBad 78 = .ok (.iload_n 2, 1) := by decide +kernel
theorem dPG_isBad_79 : decode cPG_isBad 79 = .ok (.iaload, 1) := by decide +kernel
theorem dPG_isBad_80 : decode cPG_isBad 80 = .ok (.ifCond .ne 5, 3) := by decide +kernel
theorem dPG_isBad_83 : decode cPG_isBad 83 = .ok (.iconst 1, 1) := by decide +kernel
theorem dPG_isBad_84 : decode cPG_isBad 84 = .ok (.ireturn, 1) := by decide +kernel
theorem dPG_isBad_85 : decode cPG_isBad 85 = .ok (.iinc 2 1, 3) := by decide +kernel
theorem dPG_isBad_88 : decode cPG_isBad 88 = .ok (.goto (-86), 3) := by decide +kernel
theorem dPG_isBad_91 : decode cPG_isBad 91 = .ok (.iconst 0, 1) := by decide +kernel
theorem dPG_isBad_92 : decode cPG_isBad 92 = .ok (.ireturn, 1) := by decide +kernel
theorem dRW_areBad_0 : decode cRW_areBad 0 = .ok (.iconst 0, 1) := by decide +kernel
theorem dRW_areBad_1 : decode cRW_areBad 1 = .ok (.istore_n 1, 1) := by decide +kernel
theorem dRW_areBad_2 : decode cRW_areBad 2 = .ok (.iload_n 1, 1) := by decide +kernel
theorem dRW_areBad_3 : decode cRW_areBad 3 = .ok (.iconst 5, 1) := by decide +kernel
theorem dRW_areBad_4 : decode cRW_areBad 4 = .ok (.if_icmp .ge 24, 3) := by decide +kernel
theorem dRW_areBad_7 : decode cRW_areBad 7 = .ok (.aload_n 0, 1) := by decide +kernel
theorem dRW_areBad_8 : decode cRW_areBad 8 = .ok (.getfield 11, 3) := by decide +kernel
theorem dRW_areBad_11 : decode cRW_areBad 11 = .ok (.iload_n 1, 1) := by decide +kernel
theorem dRW_areBad_12 : decode cRW_areBad 12 = .ok (.aaload, 1) := by decide +kernel
theorem dRW_areBad_13 : decode cRW_areBad 13 = .ok (.iload_n 1, 1) := by decide +kernel
theorem dRW_areBad_14 : decode cRW_areBad 14 = .ok (.invokevirtual 193, 3) := by decide +kernel
theorem dRW_areBad_17 : decode cRW_areBad 17 = .ok (.ifCond .eq 5, 3) := by decide +kernel
theorem dRW_areBad_20 : decode cRW_areBad 20 = .ok (.iconst 1, 1) := by decide +kernel
theorem dRW_areBad_21 : decode cRW_areBad 21 = .ok (.ireturn, 1) := by decide +kernel
theorem dRW_areBad_22 : decode cRW_areBad 22 = .ok (.iinc 1 1, 3) := by decide +kernel
theorem dRW_areBad_25 : decode cRW_areBad 25 = .ok (.goto (-23), 3) := by decide +kernel
theorem dRW_areBad_28 : decode cRW_areBad 28 = .ok (.aload_n 0, 1) := by decide +kernel
theorem dRW_areBad_29 : decode cRW_areBad 29 = .ok (.getfield 11, 3) := by decide +kernel
theorem dRW_areBad_32 : decode cRW_areBad 32 = .ok (.iconst 0, 1) := by decide +kernel
theorem dRW_areBad_33 : decode cRW_areBad 33 = .ok (.aaload, 1) := by decide +kernel
theorem dRW_areBad_34 : decode cRW_areBad 34 = .ok (.getfield 196, 3) := by decide +kernel
theorem dRW_areBad_37 : decode cRW_areBad 37 = .ok (.ifCond .ne 7, 3) := by decide +kernel
theorem dRW_areBad_40 : decode cRW_areBad 40 = .ok (.iconst 1, 1) := by decide +kernel
theorem dRW_areBad_41 : decode cRW_areBad 41 = .ok (.goto 4, 3) := by decide +kernel
theorem dRW_areBad_44 : decode cRW_areBad 44 = .ok (.iconst 0, 1) := by decide +kernel
theorem dRW_areBad_45 : decode cRW_areBad 45 = .ok (.ireturn, 1) := by decide +kernel
set_option maxHeartbeats 4000000 in
set_option maxRecDepth 100000 in
theorem c_PG_isBad (l : Launch) (D : va_G) (tc : Nat → ClassId) (ad : Nat → Nat) (E : Nat → va_E) (sz : Nat) (fo fa fb : Nat → Int32) (ow : Int32) (h0 : E 0 = .inr (2, [.ref (ad 1), .ref (ad 2), .ref (ad 3), .int (nI sz)])) (h1 : E 1 = .inl (tc 0, 12, .inl fo)) (h2 : E 2 = .inl (tc 0, 12, .inl fa)) (h3 : E 3 = .inl (tc 0, 12, .inl fb)) (hs : sz ≤ 12) : Ct l D tc yPG_isBad 0 4 ad E [.ref (ad 0), .int ow] (fun o E2 => o = .returned (some (.int (bi (pgBad ow sz fo fa fb)))) ∧ E2 = E) := by
  refine Ct.ofW (cc := cPG_isBad) (maxL := 3) (ret := (some .boolean)) (own := R_PG) (by decide) rfl w_338 (Nat.le_of_ble_eq_true rfl) ?_
  intro p e s m args below meth c ls X hlk hr hD hP hS hl
  have hx := X.1
  have hb := X.2.1
  have hl : lv_has ls 3 [(0, .ref (ad 0)), (1, .int ow)] := hl
  refine lv_iconst (v := 0) hx hb dPG_isBad_0 (by decide) ?_
  refine lv_istore_n hx hb dPG_isBad_1 rfl hl (by decide) rfl (fun ls hl => ?_)
  have hl : lv_has ls 3 [(2, .int 0), (0, .ref (ad 0)), (1, .int ow)] := hl
  have loop : ∀ (r i : Nat)  (H : Heap) (locs : List Loc) (ls : Array Slot), i + r = sz → (∀ j, j < i → badI ow j (fo j) (fa j) (fb j) = false) → va_D (Aw 4 ad) (wW 4 ad E) → va_P D vwCl (wW 4 ad E) H → va_S (Aw 4 ad) s.heap H locs → lv_has ls 3 [(2, .int (nI i)), (0, .ref (ad 0)), (1, .int ow)] → W p l e (rmD 0) s m args below meth c H locs 0 0 (XQ below (CtQ D 4 ad (fun o E2 => o = .returned (some (.int (bi (pgBad ow sz fo fa fb)))) ∧ E2 = E)) args s 0 0 (Aw 4 ad)) (F0 m 2 ls []) := by
    intro r
    induction r with
    | zero =>
      intro i  H locs ls hi hg hD hP hS hl
      refine lv_iload_n hx hb dPG_isBad_2 rfl (lv_at hl 0 rfl) ?_
      refine lv_aload_n hx hb dPG_isBad_3 rfl (lv_at hl 1 rfl) ?_
      refine g_PG_21 X hP (by omega) (h0) rfl dPG_isBad_4 ?_
      refine lv_icmp_ge (tgt := 91) hx hb dPG_isBad_7 rfl (fun h7 => ?_) (fun h7 => absurd (nI_le (by omega) (by omega)) h7)
      refine lv_iconst (v := 0) hx hb dPG_isBad_91 (by decide) ?_
      exact q_zret X hlk hr (by decide) hP hS dPG_isBad_92 ⟨by rw [show pgBad ow sz fo fa fb = false from any_f (fun j hj => hg j (by omega))]; rfl, rfl⟩
    | succ r ih =>
      intro i  H locs ls hi hg hD hP hS hl
      refine lv_iload_n hx hb dPG_isBad_2 rfl (lv_at hl 0 rfl) ?_
      refine lv_aload_n hx hb dPG_isBad_3 rfl (lv_at hl 1 rfl) ?_
      refine g_PG_21 X hP (by omega) (h0) rfl dPG_isBad_4 ?_
      refine lv_icmp_ge (tgt := 91) hx hb dPG_isBad_7 rfl (fun h7 => absurd h7 (nI_ge (by omega) (by omega))) (fun h7 => ?_)
      refine lv_aload_n hx hb dPG_isBad_10 rfl (lv_at hl 1 rfl) ?_
      refine g_PG_9 X hP (by omega) (h0) rfl dPG_isBad_11 ?_
      refine lv_iload_n hx hb dPG_isBad_14 rfl (lv_at hl 0 rfl) ?_
      refine q_iald i X hP (by omega) (h1) (rfl) (by omega) (by decide) dPG_isBad_15 ?_
      refine lv_bipush (v := 12) hx hb dPG_isBad_16 (by decide) ?_
      refine lv_icmp_ne (tgt := 42) hx hb dPG_isBad_18 rfl (fun h18 => ?_) (fun h18 => ?_)
      · refine lv_aload_n hx hb dPG_isBad_42 rfl (lv_at hl 1 rfl) ?_
        refine g_PG_9 X hP (by omega) (h0) rfl dPG_isBad_43 ?_
        refine lv_iload_n hx hb dPG_isBad_46 rfl (lv_at hl 0 rfl) ?_
        refine q_iald i X hP (by omega) (h1) (rfl) (by omega) (by decide) dPG_isBad_47 ?_
        refine lv_bipush (v := 6) hx hb dPG_isBad_48 (by decide) ?_
        refine lv_icmp_eq (tgt := 64) hx hb dPG_isBad_50 rfl (fun h50 => ?_) (fun h50 => ?_)
        · refine lv_aload_n hx hb dPG_isBad_64 rfl (lv_at hl 1 rfl) ?_
          refine g_PG_15 X hP (by omega) (h0) rfl dPG_isBad_65 ?_
          refine lv_iload_n hx hb dPG_isBad_68 rfl (lv_at hl 0 rfl) ?_
          refine q_iald i X hP (by omega) (h2) (rfl) (by omega) (by decide) dPG_isBad_69 ?_
          refine lv_iload_n hx hb dPG_isBad_70 rfl (lv_at hl 2 rfl) ?_
          refine lv_icmp_eq (tgt := 83) hx hb dPG_isBad_71 rfl (fun h71 => ?_) (fun h71 => ?_)
          · refine lv_iconst (v := 1) hx hb dPG_isBad_83 (by decide) ?_
            exact q_zret X hlk hr (by decide) hP hS dPG_isBad_84 ⟨by rw [show pgBad ow sz fo fa fb = true from any_t (i := i) (by omega) (bad_2 (Or.inl h50) (Or.inl h71))]; rfl, rfl⟩
          · refine lv_aload_n hx hb dPG_isBad_74 rfl (lv_at hl 1 rfl) ?_
            refine g_PG_15 X hP (by omega) (h0) rfl dPG_isBad_75 ?_
            refine lv_iload_n hx hb dPG_isBad_78 rfl (lv_at hl 0 rfl) ?_
            refine q_iald i X hP (by omega) (h2) (rfl) (by omega) (by decide) dPG_isBad_79 ?_
            refine lv_if_ne (tgt := 85) hx hb dPG_isBad_80 rfl (fun h80 => ?_) (fun h80 => ?_)
            · refine lv_iinc (k := 0) (v := nI (i + 1)) hx hb dPG_isBad_85 hl rfl (nI_1 i) (by decide) rfl (fun ls hl => ?_)
              have hl : lv_has ls 3 [(2, .int (nI (i + 1))), (0, .ref (ad 0)), (1, .int ow)] := hl
              refine lv_goto (tgt := 2) hx hb dPG_isBad_88 rfl ?_
              exact ih (i + 1) _ _ _ (by omega) (fun j hj => by by_cases h : j = i; (· subst h; exact bad_n (fun h => absurd h h18) (fun _ => ⟨h71, h80⟩)); (· exact hg j (by omega))) hD hP hS hl
            · refine lv_iconst (v := 1) hx hb dPG_isBad_83 (by decide) ?_
              exact q_zret X hlk hr (by decide) hP hS dPG_isBad_84 ⟨by rw [show pgBad ow sz fo fa fb = true from any_t (i := i) (by omega) (bad_2 (Or.inl h50) (Or.inr h80))]; rfl, rfl⟩
        · refine lv_aload_n hx hb dPG_isBad_53 rfl (lv_at hl 1 rfl) ?_
          refine g_PG_9 X hP (by omega) (h0) rfl dPG_isBad_54 ?_
          refine lv_iload_n hx hb dPG_isBad_57 rfl (lv_at hl 0 rfl) ?_
          refine q_iald i X hP (by omega) (h1) (rfl) (by omega) (by decide) dPG_isBad_58 ?_
          refine lv_bipush (v := 7) hx hb dPG_isBad_59 (by decide) ?_
          refine lv_icmp_ne (tgt := 85) hx hb dPG_isBad_61 rfl (fun h61 => ?_) (fun h61 => ?_)
          · refine lv_iinc (k := 0) (v := nI (i + 1)) hx hb dPG_isBad_85 hl rfl (nI_1 i) (by decide) rfl (fun ls hl => ?_)
            have hl : lv_has ls 3 [(2, .int (nI (i + 1))), (0, .ref (ad 0)), (1, .int ow)] := hl
            refine lv_goto (tgt := 2) hx hb dPG_isBad_88 rfl ?_
            exact ih (i + 1) _ _ _ (by omega) (fun j hj => by by_cases h : j = i; (· subst h; exact bad_n (fun h => absurd h h18) (fun h => h.elim (fun q => absurd q h50) (fun q => absurd q h61))); (· exact hg j (by omega))) hD hP hS hl
          · refine lv_aload_n hx hb dPG_isBad_64 rfl (lv_at hl 1 rfl) ?_
            refine g_PG_15 X hP (by omega) (h0) rfl dPG_isBad_65 ?_
            refine lv_iload_n hx hb dPG_isBad_68 rfl (lv_at hl 0 rfl) ?_
            refine q_iald i X hP (by omega) (h2) (rfl) (by omega) (by decide) dPG_isBad_69 ?_
            refine lv_iload_n hx hb dPG_isBad_70 rfl (lv_at hl 2 rfl) ?_
            refine lv_icmp_eq (tgt := 83) hx hb dPG_isBad_71 rfl (fun h71 => ?_) (fun h71 => ?_)
            · refine lv_iconst (v := 1) hx hb dPG_isBad_83 (by decide) ?_
              exact q_zret X hlk hr (by decide) hP hS dPG_isBad_84 ⟨by rw [show pgBad ow sz fo fa fb = true from any_t (i := i) (by omega) (bad_2 (Or.inr h61) (Or.inl h71))]; rfl, rfl⟩
            · refine lv_aload_n hx hb dPG_isBad_74 rfl (lv_at hl 1 rfl) ?_
              refine g_PG_15 X hP (by omega) (h0) rfl dPG_isBad_75 ?_
              refine lv_iload_n hx hb dPG_isBad_78 rfl (lv_at hl 0 rfl) ?_
              refine q_iald i X hP (by omega) (h2) (rfl) (by omega) (by decide) dPG_isBad_79 ?_
              refine lv_if_ne (tgt := 85) hx hb dPG_isBad_80 rfl (fun h80 => ?_) (fun h80 => ?_)
              · refine lv_iinc (k := 0) (v := nI (i + 1)) hx hb dPG_isBad_85 hl rfl (nI_1 i) (by decide) rfl (fun ls hl => ?_)
                have hl : lv_has ls 3 [(2, .int (nI (i + 1))), (0, .ref (ad 0)), (1, .int ow)] := hl
                refine lv_goto (tgt := 2) hx hb dPG_isBad_88 rfl ?_
                exact ih (i + 1) _ _ _ (by omega) (fun j hj => by by_cases h : j = i; (· subst h; exact bad_n (fun h => absurd h h18) (fun _ => ⟨h71, h80⟩)); (· exact hg j (by omega))) hD hP hS hl
              · refine lv_iconst (v := 1) hx hb dPG_isBad_83 (by decide) ?_
                exact q_zret X hlk hr (by decide) hP hS dPG_isBad_84 ⟨by rw [show pgBad ow sz fo fa fb = true from any_t (i := i) (by omega) (bad_2 (Or.inr h61) (Or.inr h80))]; rfl, rfl⟩
      · refine lv_aload_n hx hb dPG_isBad_21 rfl (lv_at hl 1 rfl) ?_
        refine g_PG_18 X hP (by omega) (h0) rfl dPG_isBad_22 ?_
        refine lv_iload_n hx hb dPG_isBad_25 rfl (lv_at hl 0 rfl) ?_
        refine q_iald i X hP (by omega) (h3) (rfl) (by omega) (by decide) dPG_isBad_26 ?_
        refine lv_if_lt (tgt := 40) hx hb dPG_isBad_27 rfl (fun h27 => ?_) (fun h27 => ?_)
        · have hwi : wi (fb i) i = false := wi_f1 h27
          refine lv_iconst (v := 1) hx hb dPG_isBad_40 (by decide) ?_
          exact q_zret X hlk hr (by decide) hP hS dPG_isBad_41 ⟨by rw [show pgBad ow sz fo fa fb = true from any_t (i := i) (by omega) (bad_1 h18 hwi)]; rfl, rfl⟩
        · refine lv_aload_n hx hb dPG_isBad_30 rfl (lv_at hl 1 rfl) ?_
          refine g_PG_18 X hP (by omega) (h0) rfl dPG_isBad_31 ?_
          refine lv_iload_n hx hb dPG_isBad_34 rfl (lv_at hl 0 rfl) ?_
          refine q_iald i X hP (by omega) (h3) (rfl) (by omega) (by decide) dPG_isBad_35 ?_
          refine lv_iload_n hx hb dPG_isBad_36 rfl (lv_at hl 0 rfl) ?_
          refine lv_icmp_lt (tgt := 42) hx hb dPG_isBad_37 rfl (fun h37 => ?_) (fun h37 => ?_)
          · have hwi : wi (fb i) i = true := wi_lt (by omega) h27 h37
            refine lv_aload_n hx hb dPG_isBad_42 rfl (lv_at hl 1 rfl) ?_
            refine g_PG_9 X hP (by omega) (h0) rfl dPG_isBad_43 ?_
            refine lv_iload_n hx hb dPG_isBad_46 rfl (lv_at hl 0 rfl) ?_
            refine q_iald i X hP (by omega) (h1) (rfl) (by omega) (by decide) dPG_isBad_47 ?_
            refine lv_bipush (v := 6) hx hb dPG_isBad_48 (by decide) ?_
            refine lv_icmp_eq (tgt := 64) hx hb dPG_isBad_50 rfl (fun h50 => ?_) (fun h50 => ?_)
            · refine lv_aload_n hx hb dPG_isBad_64 rfl (lv_at hl 1 rfl) ?_
              refine g_PG_15 X hP (by omega) (h0) rfl dPG_isBad_65 ?_
              refine lv_iload_n hx hb dPG_isBad_68 rfl (lv_at hl 0 rfl) ?_
              refine q_iald i X hP (by omega) (h2) (rfl) (by omega) (by decide) dPG_isBad_69 ?_
              refine lv_iload_n hx hb dPG_isBad_70 rfl (lv_at hl 2 rfl) ?_
              refine lv_icmp_eq (tgt := 83) hx hb dPG_isBad_71 rfl (fun h71 => ?_) (fun h71 => ?_)
              · refine lv_iconst (v := 1) hx hb dPG_isBad_83 (by decide) ?_
                exact q_zret X hlk hr (by decide) hP hS dPG_isBad_84 ⟨by rw [show pgBad ow sz fo fa fb = true from any_t (i := i) (by omega) (bad_2 (Or.inl h50) (Or.inl h71))]; rfl, rfl⟩
              · refine lv_aload_n hx hb dPG_isBad_74 rfl (lv_at hl 1 rfl) ?_
                refine g_PG_15 X hP (by omega) (h0) rfl dPG_isBad_75 ?_
                refine lv_iload_n hx hb dPG_isBad_78 rfl (lv_at hl 0 rfl) ?_
                refine q_iald i X hP (by omega) (h2) (rfl) (by omega) (by decide) dPG_isBad_79 ?_
                refine lv_if_ne (tgt := 85) hx hb dPG_isBad_80 rfl (fun h80 => ?_) (fun h80 => ?_)
                · refine lv_iinc (k := 0) (v := nI (i + 1)) hx hb dPG_isBad_85 hl rfl (nI_1 i) (by decide) rfl (fun ls hl => ?_)
                  have hl : lv_has ls 3 [(2, .int (nI (i + 1))), (0, .ref (ad 0)), (1, .int ow)] := hl
                  refine lv_goto (tgt := 2) hx hb dPG_isBad_88 rfl ?_
                  exact ih (i + 1) _ _ _ (by omega) (fun j hj => by by_cases h : j = i; (· subst h; exact bad_n (fun _ => hwi) (fun _ => ⟨h71, h80⟩)); (· exact hg j (by omega))) hD hP hS hl
                · refine lv_iconst (v := 1) hx hb dPG_isBad_83 (by decide) ?_
                  exact q_zret X hlk hr (by decide) hP hS dPG_isBad_84 ⟨by rw [show pgBad ow sz fo fa fb = true from any_t (i := i) (by omega) (bad_2 (Or.inl h50) (Or.inr h80))]; rfl, rfl⟩
            · refine lv_aload_n hx hb dPG_isBad_53 rfl (lv_at hl 1 rfl) ?_
              refine g_PG_9 X hP (by omega) (h0) rfl dPG_isBad_54 ?_
              refine lv_iload_n hx hb dPG_isBad_57 rfl (lv_at hl 0 rfl) ?_
              refine q_iald i X hP (by omega) (h1) (rfl) (by omega) (by decide) dPG_isBad_58 ?_
              refine lv_bipush (v := 7) hx hb dPG_isBad_59 (by decide) ?_
              refine lv_icmp_ne (tgt := 85) hx hb dPG_isBad_61 rfl (fun h61 => ?_) (fun h61 => ?_)
              · refine lv_iinc (k := 0) (v := nI (i + 1)) hx hb dPG_isBad_85 hl rfl (nI_1 i) (by decide) rfl (fun ls hl => ?_)
                have hl : lv_has ls 3 [(2, .int (nI (i + 1))), (0, .ref (ad 0)), (1, .int ow)] := hl
                refine lv_goto (tgt := 2) hx hb dPG_isBad_88 rfl ?_
                exact ih (i + 1) _ _ _ (by omega) (fun j hj => by by_cases h : j = i; (· subst h; exact bad_n (fun _ => hwi) (fun h => h.elim (fun q => absurd q h50) (fun q => absurd q h61))); (· exact hg j (by omega))) hD hP hS hl
              · refine lv_aload_n hx hb dPG_isBad_64 rfl (lv_at hl 1 rfl) ?_
                refine g_PG_15 X hP (by omega) (h0) rfl dPG_isBad_65 ?_
                refine lv_iload_n hx hb dPG_isBad_68 rfl (lv_at hl 0 rfl) ?_
                refine q_iald i X hP (by omega) (h2) (rfl) (by omega) (by decide) dPG_isBad_69 ?_
                refine lv_iload_n hx hb dPG_isBad_70 rfl (lv_at hl 2 rfl) ?_
                refine lv_icmp_eq (tgt := 83) hx hb dPG_isBad_71 rfl (fun h71 => ?_) (fun h71 => ?_)
                · refine lv_iconst (v := 1) hx hb dPG_isBad_83 (by decide) ?_
                  exact q_zret X hlk hr (by decide) hP hS dPG_isBad_84 ⟨by rw [show pgBad ow sz fo fa fb = true from any_t (i := i) (by omega) (bad_2 (Or.inr h61) (Or.inl h71))]; rfl, rfl⟩
                · refine lv_aload_n hx hb dPG_isBad_74 rfl (lv_at hl 1 rfl) ?_
                  refine g_PG_15 X hP (by omega) (h0) rfl dPG_isBad_75 ?_
                  refine lv_iload_n hx hb dPG_isBad_78 rfl (lv_at hl 0 rfl) ?_
                  refine q_iald i X hP (by omega) (h2) (rfl) (by omega) (by decide) dPG_isBad_79 ?_
                  refine lv_if_ne (tgt := 85) hx hb dPG_isBad_80 rfl (fun h80 => ?_) (fun h80 => ?_)
                  · refine lv_iinc (k := 0) (v := nI (i + 1)) hx hb dPG_isBad_85 hl rfl (nI_1 i) (by decide) rfl (fun ls hl => ?_)
                    have hl : lv_has ls 3 [(2, .int (nI (i + 1))), (0, .ref (ad 0)), (1, .int ow)] := hl
                    refine lv_goto (tgt := 2) hx hb dPG_isBad_88 rfl ?_
                    exact ih (i + 1) _ _ _ (by omega) (fun j hj => by by_cases h : j = i; (· subst h; exact bad_n (fun _ => hwi) (fun _ => ⟨h71, h80⟩)); (· exact hg j (by omega))) hD hP hS hl
                  · refine lv_iconst (v := 1) hx hb dPG_isBad_83 (by decide) ?_
                    exact q_zret X hlk hr (by decide) hP hS dPG_isBad_84 ⟨by rw [show pgBad ow sz fo fa fb = true from any_t (i := i) (by omega) (bad_2 (Or.inr h61) (Or.inr h80))]; rfl, rfl⟩
          · have hwi : wi (fb i) i = false := wi_nlt (by omega) h37
            refine lv_iconst (v := 1) hx hb dPG_isBad_40 (by decide) ?_
            exact q_zret X hlk hr (by decide) hP hS dPG_isBad_41 ⟨by rw [show pgBad ow sz fo fa fb = true from any_t (i := i) (by omega) (bad_1 h18 hwi)]; rfl, rfl⟩
  exact loop sz 0 _ _ _ (by omega) (fun j hj => absurd hj (Nat.not_lt_zero j)) hD hP hS hl
set_option maxHeartbeats 4000000 in
set_option maxRecDepth 100000 in
theorem c_RW_areBad (l : Launch) (D : va_G) (tc : Nat → ClassId) (ad : Nat → Nat) (E : Nat → va_E) (st cs : Int32) (sz : Nat → Nat) (fo fa fb : Nat → Nat → Int32) (hR : isRW tc ad E st cs) (hp : ∀ t, t < 5 → isPG tc ad E (3 + 7 * t) (sz t) (fo t) (fa t) (fb t)) (hs : ∀ t, t < 5 → sz t ≤ 12) : Ct l D tc yRW_areBad 1 66 ad E [.ref (ad 0)] (fun o E2 => o = .returned (some (.int (bi (allBad sz fo fa fb)))) ∧ E2 = E) := by
  refine Ct.ofW (cc := cRW_areBad) (maxL := 2) (ret := (some .boolean)) (own := R_RW) (by decide) rfl w_334 (Nat.le_of_ble_eq_true rfl) ?_
  intro p e s m args below meth c ls X hlk hr hD hP hS hl
  have hx := X.1
  have hb := X.2.1
  have hl : lv_has ls 2 [(0, .ref (ad 0))] := hl
  obtain ⟨rh0, ⟨ra1, rh1, rx1⟩, ⟨ra2, rh2, rx2⟩, ⟨ra3, rh3, rx3⟩, ⟨ra4, rh4, rx4⟩⟩ := hR
  refine lv_iconst (v := 0) hx hb dRW_areBad_0 (by decide) ?_
  refine lv_istore_n hx hb dRW_areBad_1 rfl hl (by decide) rfl (fun ls hl => ?_)
  have hl : lv_has ls 2 [(1, .int 0), (0, .ref (ad 0))] := hl
  have loop : ∀ (r i : Nat)  (H : Heap) (locs : List Loc) (ls : Array Slot), i + r = 5 → (∀ j, j < i → pgBad (nI j) (sz j) (fo j) (fa j) (fb j) = false) → va_D (Aw 66 ad) (wW 66 ad E) → va_P D vwCl (wW 66 ad E) H → va_S (Aw 66 ad) s.heap H locs → lv_has ls 2 [(1, .int (nI i)), (0, .ref (ad 0))] → W p l e (rmD 1) s m args below meth c H locs 0 0 (XQ below (CtQ D 66 ad (fun o E2 => o = .returned (some (.int (bi (allBad sz fo fa fb)))) ∧ E2 = E)) args s 0 0 (Aw 66 ad)) (F0 m 2 ls []) := by
    intro r
    induction r with
    | zero =>
      intro i  H locs ls hi hg hD hP hS hl
      refine lv_iload_n hx hb dRW_areBad_2 rfl (lv_at hl 0 rfl) ?_
      refine lv_iconst (v := 5) hx hb dRW_areBad_3 (by decide) ?_
      refine lv_icmp_ge (tgt := 28) hx hb dRW_areBad_4 rfl (fun h4 => ?_) (fun h4 => absurd (nI_le (a := 5) (b := i) (by omega) (by omega)) h4)
      obtain ⟨p0, p1, p2, p3⟩ := hp 0 (by decide)
      refine lv_aload_n hx hb dRW_areBad_28 rfl (lv_at hl 1 rfl) ?_
      refine g_RW_11 X hP (by omega) (rh0) rfl dRW_areBad_29 ?_
      refine lv_iconst (v := 0) hx hb dRW_areBad_32 (by decide) ?_
      refine q_aald (t0 := 3) 0 X hP (by omega) (rh1) rfl (rfl) (by decide) (by decide) (rx1 0 (by omega)) dRW_areBad_33 ?_
      refine g_RW_196 X hP (by omega) (p0) rfl dRW_areBad_34 ?_
      refine lv_if_ne (tgt := 44) hx hb dRW_areBad_37 rfl (fun h37 => ?_) (fun h37 => ?_)
      · refine lv_iconst (v := 0) hx hb dRW_areBad_44 (by decide) ?_
        exact q_zret X hlk hr (by decide) hP hS dRW_areBad_45 ⟨by rw [show allBad sz fo fa fb = false from (by unfold allBad; rw [any_f (fun j hj => hg j (by omega))]; simp [show ¬ sz 0 = 0 from fun q => h37 (by rw [q]; rfl)])]; rfl, rfl⟩
      · refine lv_iconst (v := 1) hx hb dRW_areBad_40 (by decide) ?_
        refine lv_goto (tgt := 45) hx hb dRW_areBad_41 rfl ?_
        exact q_zret X hlk hr (by decide) hP hS dRW_areBad_45 ⟨by rw [show allBad sz fo fa fb = true from (by unfold allBad; rw [any_f (fun j hj => hg j (by omega))]; simp [show sz 0 = 0 from (nI_eq (by have := hs 0 (by decide); omega) (by decide)).mp h37])]; rfl, rfl⟩
    | succ r ih =>
      intro i  H locs ls hi hg hD hP hS hl
      refine lv_iload_n hx hb dRW_areBad_2 rfl (lv_at hl 0 rfl) ?_
      refine lv_iconst (v := 5) hx hb dRW_areBad_3 (by decide) ?_
      refine lv_icmp_ge (tgt := 28) hx hb dRW_areBad_4 rfl (fun h4 => absurd h4 (nI_ge (a := i) (b := 5) (by omega) (by omega))) (fun h4 => ?_)
      obtain ⟨p0, p1, p2, p3⟩ := hp i (by omega)
      refine lv_aload_n hx hb dRW_areBad_7 rfl (lv_at hl 1 rfl) ?_
      refine g_RW_11 X hP (by omega) (rh0) rfl dRW_areBad_8 ?_
      refine lv_iload_n hx hb dRW_areBad_11 rfl (lv_at hl 0 rfl) ?_
      refine q_aald (t0 := 3) i X hP (by omega) (rh1) rfl (rfl) (by omega) (by decide) (rx1 i (by omega)) dRW_areBad_12 ?_
      refine lv_iload_n hx hb dRW_areBad_13 rfl (lv_at hl 0 rfl) ?_
      refine x_iE (f := fun k => (3 + 7 * i) + k) (x_runVN (C := R_PG) (As := [.int (nI i)]) (rest := []) X (c_PG_isBad l D tc (fun k => ad (3 + 7 * i + k)) (fun k => E (3 + 7 * i + k)) (sz i) (fo i) (fa i) (fb i) (nI i) p0 p1 p2 p3 (hs i (by omega))) rfl rfl (by decide) (by decide) w_338 w_2 w_335 w_337 sel_PG_isBad ry_PG_isBad (x_recv X hP (by omega) (p0) rfl) (ct_pre X hP hD (fr_lt 4 66 (3 + 7 * i) (by omega)) (fr_inj 4 (3 + 7 * i))) ct_blind hl.1 (Nat.le_of_ble_eq_true rfl) dRW_areBad_14 ⟨Nat.zero_le _, Nat.zero_le _⟩) hD hP hS (fr_lt 4 66 (3 + 7 * i) (by omega)) (fr_inj 4 (3 + 7 * i)) (fun H locs hD hP hS => ?_)
      refine lv_if_eq (tgt := 22) hx hb dRW_areBad_17 rfl (fun h17 => ?_) (fun h17 => ?_)
      · refine lv_iinc (k := 0) (v := nI (i + 1)) hx hb dRW_areBad_22 hl rfl (nI_1 i) (by decide) rfl (fun ls hl => ?_)
        have hl : lv_has ls 2 [(1, .int (nI (i + 1))), (0, .ref (ad 0))] := hl
        refine lv_goto (tgt := 2) hx hb dRW_areBad_25 rfl ?_
        exact ih (i + 1) _ _ _ (by omega) (fun j hj => by by_cases h : j = i; (· subst h; exact bi_f h17); (· exact hg j (by omega))) hD hP hS hl
      · refine lv_iconst (v := 1) hx hb dRW_areBad_20 (by decide) ?_
        exact q_zret X hlk hr (by decide) hP hS dRW_areBad_21 ⟨by rw [show allBad sz fo fa fb = true from (by unfold allBad; rw [any_t (i := i) (by omega) (bi_t h17)]; rfl)]; rfl, rfl⟩
  exact loop 5 0 _ _ _ (by omega) (fun j hj => absurd hj (Nat.not_lt_zero j)) hD hP hS hl
end
section
/-! METHODS THAT THROW -/
def TH (U : State) : Prop := (Cond.laysStatic "java/lang/Throwable" "UNASSIGNED_STACK" "[Ljava/lang/StackTraceElement;").before #[] U = true ∧ (Cond.laysStatic "java/lang/Throwable" "SUPPRESSED_SENTINEL" "Ljava/util/List;").before #[] U = true ∧
  (Cond.isRef (.static "java/lang/Throwable" "UNASSIGNED_STACK" "[Ljava/lang/StackTraceElement;")).before #[] U = true ∧ (Cond.isRef (.static "java/lang/Throwable" "SUPPRESSED_SENTINEL" "Ljava/util/List;")).before #[] U = true
theorem TH1 {s U : State} (hvm : s.vm.Alike U.vm) (hh : ∀ q, q < s.heap.size → U.heap[q]? = s.heap[q]?) {O f d : String} (h : (Cond.laysStatic O f d).before #[] s = true) : (Cond.laysStatic O f d).before #[] U = true := by
  obtain ⟨c, k, i, fd, a, cell, hc, hi, hst, ha, hcell, hs, hcls, hlt, hty⟩ := Cond.laysStatic_spec h
  obtain ⟨k', hi', hek⟩ := State.fieldFound?_setVm (s := s) hvm hi
  have hi2 : U.fieldFound? O f d = some (c, k', i, fd) := hi'
  exact Cond.laysStatic_of (s := U) (by rw [hvm.findClass]; exact hc) hi2 hst (by rw [hek]; exact ha) (by rw [hh a (Array.getElem?_eq_some_iff.mp hcell).1]; exact hcell) hs hcls hlt (by rw [hek]; exact hty)
theorem TH2 {s U : State} (hvm : s.vm.Alike U.vm) (hh : ∀ q, q < s.heap.size → U.heap[q]? = s.heap[q]?) {O f d : String} (h : (Cond.laysStatic O f d).before #[] s = true) (h2 : (Cond.isRef (.static O f d)).before #[] s = true) : (Cond.isRef (.static O f d)).before #[] U = true := by
  obtain ⟨c, k, i, fd, a, cell, hc, hi, hst, ha, hcell, hs, hcls, hlt, hty⟩ := Cond.laysStatic_spec h
  obtain ⟨k', hi', hek⟩ := State.fieldFound?_setVm (s := s) hvm hi
  have hi2 : U.fieldFound? O f d = some (c, k', i, fd) := hi'
  have ha' : k'.statics = some a := by rw [hek]; exact ha
  have hcell' : U.heap[a]? = some cell := by rw [hh a (Array.getElem?_eq_some_iff.mp hcell).1]; exact hcell
  have e1 : (Term.static O f d).eval #[] s none [] s = cell.slots[fd.slot]? := by simp [Term.eval, State.fieldNamed?, hi, hst, ha, hcell, hs]
  have e2 : (Term.static O f d).eval #[] U none [] U = cell.slots[fd.slot]? := by simp [Term.eval, State.fieldNamed?, hi2, hst, ha', hcell', hs]
  simp only [Cond.before, Cond.holds, Cond.value, e1, e2] at h2 ⊢
  exact h2
theorem TH.moved {s U : State} (hvm : s.vm.Alike U.vm) (hh : ∀ q, q < s.heap.size → U.heap[q]? = s.heap[q]?) (h : TH s) : TH U := ⟨TH1 hvm hh h.1, TH1 hvm hh h.2.1, TH2 hvm hh h.1 h.2.2.1, TH2 hvm hh h.2.1 h.2.2.2⟩
def thw : List Cond := [.laysStatic "java/lang/Throwable" "UNASSIGNED_STACK" "[Ljava/lang/StackTraceElement;", .laysStatic "java/lang/Throwable" "SUPPRESSED_SENTINEL" "Ljava/util/List;", .isRef (.static "java/lang/Throwable" "UNASSIGNED_STACK" "[Ljava/lang/StackTraceElement;"), .isRef (.static "java/lang/Throwable" "SUPPRESSED_SENTINEL" "Ljava/util/List;")]
theorem TH.at {s : State} {args : Array Value} (h : TH s) {w : Cond} (hw : w ∈ thw) : w.before args s = true := by
  simp only [thw, List.mem_cons, List.not_mem_nil, or_false] at hw
  rcases hw with rfl | rfl | rfl | rfl
  · exact h.1
  · exact h.2.1
  · exact h.2.2.1
  · exact h.2.2.2
def nmsRT : List String := ["java/lang/RuntimeException", "java/lang/Exception"]
theorem own_of {own cls : String} {ic : Nat} {args : Array Value} {s : State} (hc : ∀ a ∈ Bundle.ownAtoms0 own ic cls nmsRT, (a ∈ tables_1 ∧ stW a = true) ∨ a ∈ thw) (hts : ∀ w ∈ WS, w.before args s = true) (hT : TH s) : ∀ a ∈ Bundle.ownAtoms0 own ic cls nmsRT, a.before args s = true := fun a ha => by
  rcases hc a ha with ⟨h1, h2⟩ | h
  · exact hts a (ws_in (List.mem_append_right _ h1) h2)
  · exact hT.at h
set_option maxRecDepth 20000 in
theorem own_ISE : ∀ a ∈ Bundle.ownAtoms0 R_RW 87 "java/lang/IllegalStateException" nmsRT, (a ∈ tables_1 ∧ stW a = true) ∨ a ∈ thw := by decide +kernel
theorem pick3 {P : Nat → (Nat → Int32) → (Nat → Int32) → (Nat → Int32) → Prop} {n : Nat} (h : ∀ t, t < n → ∃ fo fa fb : Nat → Int32, P t fo fa fb) : ∃ fo fa fb : Nat → Nat → Int32, ∀ t, t < n → P t (fo t) (fa t) (fb t) := by
  have h2 : ∀ t, ∃ q : (Nat → Int32) × (Nat → Int32) × (Nat → Int32), t < n → P t q.1 q.2.1 q.2.2 := fun t => by
    by_cases ht : t < n
    · obtain ⟨a, b, c, h'⟩ := h t ht
      exact ⟨(a, b, c), fun _ => h'⟩
    · exact ⟨(fun _ => 0, fun _ => 0, fun _ => 0), fun q => absurd q ht⟩
  exact ⟨fun t => (Classical.choose (h2 t)).1, fun t => (Classical.choose (h2 t)).2.1, fun t => (Classical.choose (h2 t)).2.2, fun t ht => Classical.choose_spec (h2 t) ht⟩
end
section
set_option maxRecDepth 20000 in
theorem own_IAE : ∀ a ∈ Bundle.ownAtoms0 R_RW 93 "java/lang/IllegalArgumentException" nmsRT, (a ∈ tables_1 ∧ stW a = true) ∨ a ∈ thw := by decide +kernel
set_option maxRecDepth 20000 in
theorem own_IOB : ∀ a ∈ Bundle.ownAtoms0 R_RW 104 "java/lang/IndexOutOfBoundsException" nmsRT, (a ∈ tables_1 ∧ stW a = true) ∨ a ∈ thw := by decide +kernel
/-- nothing that was there has changed -/
theorem same_nil {s U : State} {k n : Nat} (h : s.sameButNew ({ U with vm := s.vm } : State) [] k n) : ∀ (q : Nat) (c0 : Cell), s.heap[q]? = some c0 → U.heap[q]? = some c0 := by
  intro q c0 hq
  obtain ⟨c', h1, h2, h3, h4⟩ := h.2.2.2.2.2 q c0 hq
  have e : c'.slots = c0.slots := by
    apply Array.ext_getElem?
    intro i
    exact h4 i (by simp)
  have h1' : U.heap[q]? = some c' := h1
  rw [h1', h2, e]
section QT
variable {p : Program} {l : Launch} {e : Env} {R : Room} {s : State} {m : MethodId} {args : Array Value} {below : List Frame} {meth : Method} {c : Code} {H : Heap} {locs : List Loc} {cells slots : Nat} {Q : State → Prop}
variable {cc : ByteArray} {nL pc n : Nat} {own : String} {D : va_G} {tc : Nat → ClassId} {ad : Nat → Nat} {E : Nat → va_E} {A : Nat → Prop} {H0 : Heap} {ls : Array Slot} {rest st0 As : List Value}
/-- throw new X(): new, dup, invokespecial, athrow, where nothing was written before -/
theorem q_throw {cls : String} {ix ic : Nat} {Qc : Array Value → State → Outcome → State → Prop} {free : Addr → Prop} (X : Cx p s m args c cc nL own D tc) (hlk : meth.locks = false) (hf : l.flags = pinnedFlags ++ [noTraceFlag])
    (hat : ∀ a ∈ Bundle.ownAtoms0 own ic cls nmsRT, a.before args s = true) (hcls : Bundle.fit cls = true) (hcl : Cond.classLink own ix cls ∈ WS) (hinst : Cond.instantiable cls 6 ∈ WS) (hini : Cond.initialized cls ∈ WS) (hno : c.exceptionTable.isEmpty = true) (hS : va_S A s.heap H [])
    (hd0 : decode cc pc = .ok (.new ix, 3)) (hd1 : decode cc (pc + 3) = .ok (.dup, 1)) (hd2 : decode cc (pc + 3 + 1) = .ok (.invokespecial ic, 3)) (hd3 : decode cc (pc + 3 + 1 + 3) = .ok (.athrow, 1)) (hsz : ls.size = nL) (hR1 : 1 ≤ R.cells) (hR2 : 6 ≤ R.slots) (hRf : 5 < R.frames) (hRl : 81 ≤ R.locals)
    (hq : ∀ (t : State) (a : Nat) (cell : Cell), s.WarmedH t.vm → (∀ (q : Nat) (c0 : Cell), s.heap[q]? = some c0 → t.heap[q]? = some c0) → s.heap.size ≤ t.heap.size → s.heap.size ≤ a → t.heap[a]? = some cell → cell.vm = .none → s.vm.findClass cls = some cell.cls → Qc args s (.threw a) t) :
    W p l e R s m args below meth c H [] 0 0 (XQ below Qc args s 1 6 free) (F0 m pc ls []) := by
  have hts := X.2.2.2.2.1
  refine W.newc X.1 X.2.1 X.2.2.2.1 (hts _ hcl) (hts _ hinst) (hts _ hini) rfl hd0 (by omega) (by omega) (fun cC kC h1 h2 h3 h4 => ?_)
  show W p l e R s m args below meth c _ [] _ _ _ (F0 m (pc + 3) ls [.ref H.size])
  refine lv_dup X.1 X.2.1 hd1 rfl ?_
  intro T hT XX
  have htr : e.platform.stackTraces = false := Launch.traces_off hf XX.admits
  have hcell : T.heap[H.size]? = some (freshCell cC kC) := by rw [hT]; simp [freshCell]
  obtain ⟨U, st, hrun, hend, hWU, hsame, ce, hce, hown⟩ := XX.ctorThrow0 X.1 htr (names := nmsRT) X.2.2.2.1 hcls (by decide) hat (fun x hx => by cases hx) h1 h2 hcell hS.1 (g := F0 m (pc + 3 + 1) ls [.ref H.size, .ref H.size]) rfl (hsz.trans X.2.2.1.symm) rfl rfl (rest := []) rfl (by rw [X.2.1]; exact hd2) (by rw [X.2.1]; exact hd3) (covers_of_empty hno _)
    (by show 2 + 3 < _; omega) (by show 2 * 0 + (1 + 0) + (13 * (2 + 1) + 41) ≤ _; omega) hlk
  exact ⟨U, st, .threw H.size, hrun, hend, hq U H.size ce hWU (same_nil hsame) hsame.2.1 hS.1 hce hown.vm hown.cls, [], ⟨hWU, hsame⟩, fun q h => by cases h⟩
end QT
def rmT (d : Nat) : Room := { frames := d, cells := 1, slots := 6, locals := 32 * d }
def CtTQ (D : va_G) (n : Nat) (ad : Nat → Nat) (sz : Nat) (post : Outcome → (Nat → va_E) → State → Prop) : Array Value → State → Outcome → State → Prop := fun _ st o t => (∃ E', post o E' t ∧ va_P D vwCl (wW n ad E') t.heap) ∧ va_F (fun q => Aw n ad q ∨ sz ≤ q) st t
def CtTP (D : va_G) (tc : Nat → ClassId) (n : Nat) (ad : Nat → Nat) (E : Nat → va_E) (av : List Value) (sz : Nat) (ex : State → Prop) : Array Value → State → Prop := fun v U => U.heap.size = sz ∧ CtP D tc n ad E av v U ∧ TH U ∧ ex U
/-- a method that makes at most one cell (what it throws) -/
def CtT (l : Launch) (D : va_G) (tc : Nat → ClassId) (y : MethodName) (d n : Nat) (ad : Nat → Nat) (E : Nat → va_E) (av : List Value) (sz : Nat) (ex : State → Prop) (post : Outcome → (Nat → va_E) → State → Prop) : Prop :=
  MetX l y WS (rmT d) (CtTP D tc n ad E av sz ex) (CtTQ D n ad sz post) 1 6 (fun q => Aw n ad q ∨ sz ≤ q)
theorem CtT.ofW {l : Launch} {D : va_G} {tc : Nat → ClassId} {y : MethodName} {d n : Nat} {ad : Nat → Nat} {E : Nat → va_E} {av : List Value} {sz : Nat} {ex : State → Prop} {post : Outcome → (Nat → va_E) → State → Prop} {cc : ByteArray} {maxL : Nat} {ret : Option FieldType} {own : String}
    (hy : plainName y.cls = true) (ho : y.cls = own) (hw : Cond.code y cc maxL ret ∈ WS) (hlen : (lg_sl av).length ≤ maxL)
    (body : ∀ (p : Program) (e : Env) (s : State) (m : MethodId) (args : Array Value) (below : List Frame) (meth : Method) (c : Code) (ls : Array Slot), Cx p s m args c cc maxL own D tc → meth.locks = false → meth.sig.returnType = ret → c.exceptionTable.isEmpty = true → s.heap.size = sz → TH s → ex s → va_D (Aw n ad) (wW n ad E) → va_P D vwCl (wW n ad E) s.heap → va_S (Aw n ad) s.heap s.heap [] → lv_has ls maxL (lv_args 0 av) →
      W p l e (rmT d) s m args below meth c s.heap [] 0 0 (XQ below (CtTQ D n ad sz post) args s 1 6 (fun q => Aw n ad q ∨ sz ≤ q)) (F0 m 0 ls [])) : CtT l D tc y d n ad E av sz ex post := by
  refine MetX.ofW hy hw ?_
  intro p e s m args below meth c s₁ B hml hP
  obtain ⟨hsz, ⟨rfl, hP, hK, hD⟩, hT, hex⟩ := hP
  rw [lg_entry_eq]
  have hts := atoms_spec (ws := WS) B.pre
  exact body p e s m _ below meth c _ ⟨B.exec, B.bytes, hml, (by rw [← ho]; exact findClass_of_methodNamed B.named), hts, hK⟩ B.notSynchronized B.returns (B.noHandlers (hts _ hw)) hsz hT hex hD hP va_S.rf (lv_entry av hlen)
def isThr (C : String) (x sz : Nat) (t : State) : Prop := ∃ cell : Cell, t.heap[x]? = some cell ∧ cell.vm = .none ∧ t.vm.findClass C = some cell.cls ∧ sz ≤ x
section QT2
variable {p : Program} {l : Launch} {e : Env} {R : Room} {s : State} {m : MethodId} {args : Array Value} {below : List Frame} {meth : Method} {c : Code} {H : Heap} {locs : List Loc} {cells slots : Nat} {Q : State → Prop}
variable {cc : ByteArray} {nL pc n : Nat} {own : String} {D : va_G} {tc : Nat → ClassId} {ad : Nat → Nat} {E : Nat → va_E} {A : Nat → Prop} {H0 : Heap} {ls : Array Slot} {rest st0 As : List Value} {post : Outcome → (Nat → va_E) → State → Prop} {sz : Nat}
/-- its end by a throw: the world is as at the entry -/
theorem q_thr (cls : String) {ix ic d : Nat} (X : Cx p s m args c cc nL own D tc) (hlk : meth.locks = false) (hf : l.flags = pinnedFlags ++ [noTraceFlag]) (hat : ∀ a ∈ Bundle.ownAtoms0 own ic cls nmsRT, a.before args s = true) (hcls : Bundle.fit cls = true) (hcl : Cond.classLink own ix cls ∈ WS) (hinst : Cond.instantiable cls 6 ∈ WS) (hini : Cond.initialized cls ∈ WS) (hno : c.exceptionTable.isEmpty = true) (hS : va_S A s.heap H []) (hsz0 : s.heap.size = sz) (hP : va_P D vwCl (wW n ad E) s.heap)
    (hd0 : decode cc pc = .ok (.new ix, 3)) (hd1 : decode cc (pc + 3) = .ok (.dup, 1)) (hd2 : decode cc (pc + 3 + 1) = .ok (.invokespecial ic, 3)) (hd3 : decode cc (pc + 3 + 1 + 3) = .ok (.athrow, 1)) (hsz : ls.size = nL) (hd : 5 < d)
    (hp : ∀ (t : State) (x : Nat), isThr cls x sz t → post (.threw x) E t) :
    W p l e (rmT d) s m args below meth c H [] 0 0 (XQ below (CtTQ D n ad sz post) args s 1 6 (fun q => Aw n ad q ∨ sz ≤ q)) (F0 m pc ls []) := by
  refine q_throw X hlk hf hat hcls hcl hinst hini hno hS hd0 hd1 hd2 hd3 hsz (Nat.le_refl _) (Nat.le_refl _) hd (by show 81 ≤ 32 * d; omega) (fun t a cell hW hk hz ha hc hv hfc => ?_)
  refine ⟨⟨E, hp t a ⟨cell, hc, hv, by rw [hW.alike.findClass]; exact hfc, by omega⟩, hP.kept (fun k q hq => ?_)⟩, hz, fun q h1 _ => ?_⟩
  · obtain ⟨h1, rfl⟩ := wW_inv hq
    have h2 := (hP k _ hq).lt
    rw [Array.getElem?_eq_getElem h2]
    exact hk _ _ (Array.getElem?_eq_getElem h2)
  · rw [Array.getElem?_eq_getElem h1]
    exact hk _ _ (Array.getElem?_eq_getElem h1)
end QT2
/-! readers that write nothing at all: no place is free -/
def Ct0 (l : Launch) (D : va_G) (tc : Nat → ClassId) (y : MethodName) (d n : Nat) (ad : Nat → Nat) (E : Nat → va_E) (av : List Value) (post : Outcome → (Nat → va_E) → Prop) : Prop :=
  MetX l y WS (rmD d) (CtP D tc n ad E av) (CtQ D n ad post) 0 0 (fun _ => False)
theorem Ct0.ofW {l : Launch} {D : va_G} {tc : Nat → ClassId} {y : MethodName} {d n : Nat} {ad : Nat → Nat} {E : Nat → va_E} {av : List Value} {post : Outcome → (Nat → va_E) → Prop} {cc : ByteArray} {maxL : Nat} {ret : Option FieldType} {own : String}
    (hy : plainName y.cls = true) (ho : y.cls = own) (hw : Cond.code y cc maxL ret ∈ WS) (hlen : (lg_sl av).length ≤ maxL)
    (body : ∀ (p : Program) (e : Env) (s : State) (m : MethodId) (args : Array Value) (below : List Frame) (meth : Method) (c : Code) (ls : Array Slot), Cx p s m args c cc maxL own D tc → meth.locks = false → meth.sig.returnType = ret → va_D (Aw n ad) (wW n ad E) → va_P D vwCl (wW n ad E) s.heap → va_S (Aw n ad) s.heap s.heap [] → lv_has ls maxL (lv_args 0 av) →
      W p l e (rmD d) s m args below meth c s.heap [] 0 0 (XQ below (CtQ D n ad post) args s 0 0 (fun _ => False)) (F0 m 0 ls [])) : Ct0 l D tc y d n ad E av post := by
  refine MetX.ofW hy hw ?_
  intro p e s m args below meth c s₁ B hml hP
  obtain ⟨rfl, hP, hK, hD⟩ := hP
  rw [lg_entry_eq]
  exact body p e s m _ below meth c _ ⟨B.exec, B.bytes, hml, (by rw [← ho]; exact findClass_of_methodNamed B.named), atoms_spec (ws := WS) B.pre, hK⟩ B.notSynchronized B.returns hD hP va_S.rf (lv_entry av hlen)
section QZ
variable {p : Program} {l : Launch} {e : Env} {R : Room} {s : State} {m : MethodId} {args : Array Value} {below : List Frame} {meth : Method} {c : Code} {H : Heap} {locs : List Loc} {cells slots : Nat} {Q : State → Prop}
variable {cc : ByteArray} {nL pc n : Nat} {own : String} {D : va_G} {tc : Nat → ClassId} {ad : Nat → Nat} {E : Nat → va_E} {A : Nat → Prop} {H0 : Heap} {ls : Array Slot} {rest st0 As : List Value} {post : Outcome → (Nat → va_E) → Prop}
theorem q_zret0 {v : Int32} (X : Cx p s m args c cc nL own D tc) (hlk : meth.locks = false) (hr : meth.sig.returnType = some .boolean) (hn : narrow .boolean (.int v) = .int v) (hP : va_P D vwCl (wW n ad E) H) (hS : va_S (Aw n ad) s.heap H []) (hdg : decode cc pc = .ok (.ireturn, 1)) (hp : post (.returned (some (.int v))) E) :
    W p l e R s m args below meth c H [] 0 0 (XQ below (CtQ D n ad post) args s 0 0 (fun _ => False)) (F0 m pc ls [.int v]) :=
  W.mono (fun _ h => XQ.ofM h) (W.zret X.1 X.2.1 hr hn (fun t ht _ => ⟨⟨E, hp, by rw [ht]; exact hP⟩, hS.F ht⟩) (fun q h => by cases h) hdg hlk)
theorem x_iE0 {m2 : Nat} {f : Nat → Nat} {a : Array Value} {v : Int32} (hr : XRun p l e R s m args below meth c H locs cells slots 0 0 pc ls st0 rest (CtQ D m2 (fun k => ad (f k)) (fun o E' => o = .returned (some (.int v)) ∧ E' = fun k => E (f k)) a) (fun _ => False)) (hD : va_D A (wW n ad E)) (hP : va_P D vwCl (wW n ad E) H) (hS : va_S A H0 H locs) (hf : ∀ k, k < m2 → f k < n) (hi : ∀ i j, i < m2 → j < m2 → f i = f j → i = j)
    (kk : ∀ H1 : Heap, va_D A (wW n ad E) → va_P D vwCl (wW n ad E) H1 → va_S A H0 H1 locs → W p l e R s m args below meth c H1 locs cells slots Q (F0 m (pc + 3) ls (.int v :: rest))) :
    W p l e R s m args below meth c H locs cells slots Q (F0 m pc ls st0) := by
  intro T hT X
  obtain ⟨o, st₀, t, T', L, h0, X', hL, e1, e2, ⟨⟨E1, ⟨rfl, he⟩, hP1⟩, hz, hk⟩, hret, hthr⟩ := hr T hT X
  have hLn : L = [] := by
    cases L with
    | nil => rfl
    | cons q L => exact (hL q List.mem_cons_self).elim
  subst hLn
  rw [List.append_nil] at X'
  rw [h0] at hz hk
  have hsub : ∀ q, Aw m2 (fun k => ad (f k)) q → A q := fun q ⟨k, h1, h2⟩ => by rw [h2]; exact wW_in hD (hf k h1)
  have hPn : va_P D vwCl (wW n ad E) t.heap := by
    have := wW_back (E1 := E1) hP hD hf hi (fun q h1 h2 => hk q h1 (fun ⟨k, h3, h4⟩ => h2 (Or.inl ⟨k, E (f k), by rw [wW_get h3 rfl, h4]⟩))) hP1
    rwa [wU_same he] at this
  have hSn : va_S A H0 T'.heap locs := ⟨Nat.le_trans hS.1 (by rw [e1]; exact hz), fun q h1 h2 => by rw [e1, hk q (Nat.lt_of_lt_of_le h1 hS.1) (fun z => h2 (hsub q z))]; exact hS.2.1 q h1 h2, hS.2.2⟩
  obtain ⟨t2, a1, b1⟩ := kk T'.heap hD (by rw [e1]; exact hPn) hSn T' rfl X'
  exact ⟨t2, hret _ rfl t2 a1, b1⟩
end QZ
end
section

set_option maxHeartbeats 4000000 in
set_option maxRecDepth 100000 in
theorem c0_RW_isThread (l : Launch) (D : va_G) (tc : Nat → ClassId) (ad : Nat → Nat) (E : Nat → va_E) (t : Int32)  : Ct0 l D tc yRW_isThread 0 0 ad E [.int t] (fun o E2 => o = .returned (some (.int (bi (wi t 5)))) ∧ E2 = E) := by
  refine Ct0.ofW (cc := cRW_isThread) (maxL := 1) (ret := (some .boolean)) (own := R_RW) (by decide) rfl w_157 (Nat.le_of_ble_eq_true rfl) ?_
  intro p e s m args below meth c ls X hlk hr hD hP hS hl
  have hx := X.1
  have hb := X.2.1
  have hl : lv_has ls 1 [(0, .int t)] := hl
  refine lv_iload_n hx hb dRW_isThread_0 rfl (lv_at hl 0 rfl) ?_
  refine lv_if_lt (tgt := 13) hx hb dRW_isThread_1 rfl (fun h1 => ?_) (fun h1 => ?_)
  · refine lv_iconst (v := 0) hx hb dRW_isThread_13 (by decide) ?_
    exact q_zret0 X hlk hr (by decide) hP hS dRW_isThread_14 (⟨by rw [(show wi t 5 = false from (by first | exact wi_t (N := 5) (by decide) (by assumption) (by assumption) | exact wi_f1 (by assumption) | exact wi_f2 (N := 5) (by decide) (by assumption)))]; rfl, rfl⟩)
  · refine lv_iload_n hx hb dRW_isThread_4 rfl (lv_at hl 0 rfl) ?_
    refine lv_iconst (v := 5) hx hb dRW_isThread_5 (by decide) ?_
    refine lv_icmp_ge (tgt := 13) hx hb dRW_isThread_6 rfl (fun h6 => ?_) (fun h6 => ?_)
    · refine lv_iconst (v := 0) hx hb dRW_isThread_13 (by decide) ?_
      exact q_zret0 X hlk hr (by decide) hP hS dRW_isThread_14 (⟨by rw [(show wi t 5 = false from (by first | exact wi_t (N := 5) (by decide) (by assumption) (by assumption) | exact wi_f1 (by assumption) | exact wi_f2 (N := 5) (by decide) (by assumption)))]; rfl, rfl⟩)
    · refine lv_iconst (v := 1) hx hb dRW_isThread_9 (by decide) ?_
      refine lv_goto (tgt := 14) hx hb dRW_isThread_10 rfl ?_
      exact q_zret0 X hlk hr (by decide) hP hS dRW_isThread_14 (⟨by rw [(show wi t 5 = true from (by first | exact wi_t (N := 5) (by decide) (by assumption) (by assumption) | exact wi_f1 (by assumption) | exact wi_f2 (N := 5) (by decide) (by assumption)))]; rfl, rfl⟩)
set_option maxHeartbeats 4000000 in
set_option maxRecDepth 100000 in
theorem c0_PG_isBad (l : Launch) (D : va_G) (tc : Nat → ClassId) (ad : Nat → Nat) (E : Nat → va_E) (sz : Nat) (fo fa fb : Nat → Int32) (ow : Int32) (h0 : E 0 = .inr (2, [.ref (ad 1), .ref (ad 2), .ref (ad 3), .int (nI sz)])) (h1 : E 1 = .inl (tc 0, 12, .inl fo)) (h2 : E 2 = .inl (tc 0, 12, .inl fa)) (h3 : E 3 = .inl (tc 0, 12, .inl fb)) (hs : sz ≤ 12) : Ct0 l D tc yPG_isBad 0 4 ad E [.ref (ad 0), .int ow] (fun o E2 => o = .returned (some (.int (bi (pgBad ow sz fo fa fb)))) ∧ E2 = E) := by
  refine Ct0.ofW (cc := cPG_isBad) (maxL := 3) (ret := (some .boolean)) (own := R_PG) (by decide) rfl w_338 (Nat.le_of_ble_eq_true rfl) ?_
  intro p e s m args below meth c ls X hlk hr hD hP hS hl
  have hx := X.1
  have hb := X.2.1
  have hl : lv_has ls 3 [(0, .ref (ad 0)), (1, .int ow)] := hl
  refine lv_iconst (v := 0) hx hb dPG_isBad_0 (by decide) ?_
  refine lv_istore_n hx hb dPG_isBad_1 rfl hl (by decide) rfl (fun ls hl => ?_)
  have hl : lv_has ls 3 [(2, .int 0), (0, .ref (ad 0)), (1, .int ow)] := hl
  have loop : ∀ (r i : Nat)  (H : Heap) (ls : Array Slot), i + r = sz → (∀ j, j < i → badI ow j (fo j) (fa j) (fb j) = false) → va_D (Aw 4 ad) (wW 4 ad E) → va_P D vwCl (wW 4 ad E) H → va_S (Aw 4 ad) s.heap H [] → lv_has ls 3 [(2, .int (nI i)), (0, .ref (ad 0)), (1, .int ow)] → W p l e (rmD 0) s m args below meth c H [] 0 0 (XQ below (CtQ D 4 ad (fun o E2 => o = .returned (some (.int (bi (pgBad ow sz fo fa fb)))) ∧ E2 = E)) args s 0 0 (fun _ => False)) (F0 m 2 ls []) := by
    intro r
    induction r with
    | zero =>
      intro i  H ls hi hg hD hP hS hl
      refine lv_iload_n hx hb dPG_isBad_2 rfl (lv_at hl 0 rfl) ?_
      refine lv_aload_n hx hb dPG_isBad_3 rfl (lv_at hl 1 rfl) ?_
      refine g_PG_21 X hP (by omega) (h0) rfl dPG_isBad_4 ?_
      refine lv_icmp_ge (tgt := 91) hx hb dPG_isBad_7 rfl (fun h7 => ?_) (fun h7 => absurd (nI_le (by omega) (by omega)) h7)
      refine lv_iconst (v := 0) hx hb dPG_isBad_91 (by decide) ?_
      exact q_zret0 X hlk hr (by decide) hP hS dPG_isBad_92 ⟨by rw [show pgBad ow sz fo fa fb = false from any_f (fun j hj => hg j (by omega))]; rfl, rfl⟩
    | succ r ih =>
      intro i  H ls hi hg hD hP hS hl
      refine lv_iload_n hx hb dPG_isBad_2 rfl (lv_at hl 0 rfl) ?_
      refine lv_aload_n hx hb dPG_isBad_3 rfl (lv_at hl 1 rfl) ?_
      refine g_PG_21 X hP (by omega) (h0) rfl dPG_isBad_4 ?_
      refine lv_icmp_ge (tgt := 91) hx hb dPG_isBad_7 rfl (fun h7 => absurd h7 (nI_ge (by omega) (by omega))) (fun h7 => ?_)
      refine lv_aload_n hx hb dPG_isBad_10 rfl (lv_at hl 1 rfl) ?_
      refine g_PG_9 X hP (by omega) (h0) rfl dPG_isBad_11 ?_
      refine lv_iload_n hx hb dPG_isBad_14 rfl (lv_at hl 0 rfl) ?_
      refine q_iald i X hP (by omega) (h1) (rfl) (by omega) (by decide) dPG_isBad_15 ?_
      refine lv_bipush (v := 12) hx hb dPG_isBad_16 (by decide) ?_
      refine lv_icmp_ne (tgt := 42) hx hb dPG_isBad_18 rfl (fun h18 => ?_) (fun h18 => ?_)
      · refine lv_aload_n hx hb dPG_isBad_42 rfl (lv_at hl 1 rfl) ?_
        refine g_PG_9 X hP (by omega) (h0) rfl dPG_isBad_43 ?_
        refine lv_iload_n hx hb dPG_isBad_46 rfl (lv_at hl 0 rfl) ?_
        refine q_iald i X hP (by omega) (h1) (rfl) (by omega) (by decide) dPG_isBad_47 ?_
        refine lv_bipush (v := 6) hx hb dPG_isBad_48 (by decide) ?_
        refine lv_icmp_eq (tgt := 64) hx hb dPG_isBad_50 rfl (fun h50 => ?_) (fun h50 => ?_)
        · refine lv_aload_n hx hb dPG_isBad_64 rfl (lv_at hl 1 rfl) ?_
          refine g_PG_15 X hP (by omega) (h0) rfl dPG_isBad_65 ?_
          refine lv_iload_n hx hb dPG_isBad_68 rfl (lv_at hl 0 rfl) ?_
          refine q_iald i X hP (by omega) (h2) (rfl) (by omega) (by decide) dPG_isBad_69 ?_
          refine lv_iload_n hx hb dPG_isBad_70 rfl (lv_at hl 2 rfl) ?_
          refine lv_icmp_eq (tgt := 83) hx hb dPG_isBad_71 rfl (fun h71 => ?_) (fun h71 => ?_)
          · refine lv_iconst (v := 1) hx hb dPG_isBad_83 (by decide) ?_
            exact q_zret0 X hlk hr (by decide) hP hS dPG_isBad_84 ⟨by rw [show pgBad ow sz fo fa fb = true from any_t (i := i) (by omega) (bad_2 (Or.inl h50) (Or.inl h71))]; rfl, rfl⟩
          · refine lv_aload_n hx hb dPG_isBad_74 rfl (lv_at hl 1 rfl) ?_
            refine g_PG_15 X hP (by omega) (h0) rfl dPG_isBad_75 ?_
            refine lv_iload_n hx hb dPG_isBad_78 rfl (lv_at hl 0 rfl) ?_
            refine q_iald i X hP (by omega) (h2) (rfl) (by omega) (by decide) dPG_isBad_79 ?_
            refine lv_if_ne (tgt := 85) hx hb dPG_isBad_80 rfl (fun h80 => ?_) (fun h80 => ?_)
            · refine lv_iinc (k := 0) (v := nI (i + 1)) hx hb dPG_isBad_85 hl rfl (nI_1 i) (by decide) rfl (fun ls hl => ?_)
              have hl : lv_has ls 3 [(2, .int (nI (i + 1))), (0, .ref (ad 0)), (1, .int ow)] := hl
              refine lv_goto (tgt := 2) hx hb dPG_isBad_88 rfl ?_
              exact ih (i + 1) _ _ (by omega) (fun j hj => by by_cases h : j = i; (· subst h; exact bad_n (fun h => absurd h h18) (fun _ => ⟨h71, h80⟩)); (· exact hg j (by omega))) hD hP hS hl
            · refine lv_iconst (v := 1) hx hb dPG_isBad_83 (by decide) ?_
              exact q_zret0 X hlk hr (by decide) hP hS dPG_isBad_84 ⟨by rw [show pgBad ow sz fo fa fb = true from any_t (i := i) (by omega) (bad_2 (Or.inl h50) (Or.inr h80))]; rfl, rfl⟩
        · refine lv_aload_n hx hb dPG_isBad_53 rfl (lv_at hl 1 rfl) ?_
          refine g_PG_9 X hP (by omega) (h0) rfl dPG_isBad_54 ?_
          refine lv_iload_n hx hb dPG_isBad_57 rfl (lv_at hl 0 rfl) ?_
          refine q_iald i X hP (by omega) (h1) (rfl) (by omega) (by decide) dPG_isBad_58 ?_
          refine lv_bipush (v := 7) hx hb dPG_isBad_59 (by decide) ?_
          refine lv_icmp_ne (tgt := 85) hx hb dPG_isBad_61 rfl (fun h61 => ?_) (fun h61 => ?_)
          · refine lv_iinc (k := 0) (v := nI (i + 1)) hx hb dPG_isBad_85 hl rfl (nI_1 i) (by decide) rfl (fun ls hl => ?_)
            have hl : lv_has ls 3 [(2, .int (nI (i + 1))), (0, .ref (ad 0)), (1, .int ow)] := hl
            refine lv_goto (tgt := 2) hx hb dPG_isBad_88 rfl ?_
            exact ih (i + 1) _ _ (by omega) (fun j hj => by by_cases h : j = i; (· subst h; exact bad_n (fun h => absurd h h18) (fun h => h.elim (fun q => absurd q h50) (fun q => absurd q h61))); (· exact hg j (by omega))) hD hP hS hl
          · refine lv_aload_n hx hb dPG_isBad_64 rfl (lv_at hl 1 rfl) ?_
            refine g_PG_15 X hP (by omega) (h0) rfl dPG_isBad_65 ?_
            refine lv_iload_n hx hb dPG_isBad_68 rfl (lv_at hl 0 rfl) ?_
            refine q_iald i X hP (by omega) (h2) (rfl) (by omega) (by decide) dPG_isBad_69 ?_
            refine lv_iload_n hx hb dPG_isBad_70 rfl (lv_at hl 2 rfl) ?_
            refine lv_icmp_eq (tgt := 83) hx hb dPG_isBad_71 rfl (fun h71 => ?_) (fun h71 => ?_)
            · refine lv_iconst (v := 1) hx hb dPG_isBad_83 (by decide) ?_
              exact q_zret0 X hlk hr (by decide) hP hS dPG_isBad_84 ⟨by rw [show pgBad ow sz fo fa fb = true from any_t (i := i) (by omega) (bad_2 (Or.inr h61) (Or.inl h71))]; rfl, rfl⟩
            · refine lv_aload_n hx hb dPG_isBad_74 rfl (lv_at hl 1 rfl) ?_
              refine g_PG_15 X hP (by omega) (h0) rfl dPG_isBad_75 ?_
              refine lv_iload_n hx hb dPG_isBad_78 rfl (lv_at hl 0 rfl) ?_
              refine q_iald i X hP (by omega) (h2) (rfl) (by omega) (by decide) dPG_isBad_79 ?_
              refine lv_if_ne (tgt := 85) hx hb dPG_isBad_80 rfl (fun h80 => ?_) (fun h80 => ?_)
              · refine lv_iinc (k := 0) (v := nI (i + 1)) hx hb dPG_isBad_85 hl rfl (nI_1 i) (by decide) rfl (fun ls hl => ?_)
                have hl : lv_has ls 3 [(2, .int (nI (i + 1))), (0, .ref (ad 0)), (1, .int ow)] := hl
                refine lv_goto (tgt := 2) hx hb dPG_isBad_88 rfl ?_
                exact ih (i + 1) _ _ (by omega) (fun j hj => by by_cases h : j = i; (· subst h; exact bad_n (fun h => absurd h h18) (fun _ => ⟨h71, h80⟩)); (· exact hg j (by omega))) hD hP hS hl
              · refine lv_iconst (v := 1) hx hb dPG_isBad_83 (by decide) ?_
                exact q_zret0 X hlk hr (by decide) hP hS dPG_isBad_84 ⟨by rw [show pgBad ow sz fo fa fb = true from any_t (i := i) (by omega) (bad_2 (Or.inr h61) (Or.inr h80))]; rfl, rfl⟩
      · refine lv_aload_n hx hb dPG_isBad_21 rfl (lv_at hl 1 rfl) ?_
        refine g_PG_18 X hP (by omega) (h0) rfl dPG_isBad_22 ?_
        refine lv_iload_n hx hb dPG_isBad_25 rfl (lv_at hl 0 rfl) ?_
        refine q_iald i X hP (by omega) (h3) (rfl) (by omega) (by decide) dPG_isBad_26 ?_
        refine lv_if_lt (tgt := 40) hx hb dPG_isBad_27 rfl (fun h27 => ?_) (fun h27 => ?_)
        · have hwi : wi (fb i) i = false := wi_f1 h27
          refine lv_iconst (v := 1) hx hb dPG_isBad_40 (by decide) ?_
          exact q_zret0 X hlk hr (by decide) hP hS dPG_isBad_41 ⟨by rw [show pgBad ow sz fo fa fb = true from any_t (i := i) (by omega) (bad_1 h18 hwi)]; rfl, rfl⟩
        · refine lv_aload_n hx hb dPG_isBad_30 rfl (lv_at hl 1 rfl) ?_
          refine g_PG_18 X hP (by omega) (h0) rfl dPG_isBad_31 ?_
          refine lv_iload_n hx hb dPG_isBad_34 rfl (lv_at hl 0 rfl) ?_
          refine q_iald i X hP (by omega) (h3) (rfl) (by omega) (by decide) dPG_isBad_35 ?_
          refine lv_iload_n hx hb dPG_isBad_36 rfl (lv_at hl 0 rfl) ?_
          refine lv_icmp_lt (tgt := 42) hx hb dPG_isBad_37 rfl (fun h37 => ?_) (fun h37 => ?_)
          · have hwi : wi (fb i) i = true := wi_lt (by omega) h27 h37
            refine lv_aload_n hx hb dPG_isBad_42 rfl (lv_at hl 1 rfl) ?_
            refine g_PG_9 X hP (by omega) (h0) rfl dPG_isBad_43 ?_
            refine lv_iload_n hx hb dPG_isBad_46 rfl (lv_at hl 0 rfl) ?_
            refine q_iald i X hP (by omega) (h1) (rfl) (by omega) (by decide) dPG_isBad_47 ?_
            refine lv_bipush (v := 6) hx hb dPG_isBad_48 (by decide) ?_
            refine lv_icmp_eq (tgt := 64) hx hb dPG_isBad_50 rfl (fun h50 => ?_) (fun h50 => ?_)
            · refine lv_aload_n hx hb dPG_isBad_64 rfl (lv_at hl 1 rfl) ?_
              refine g_PG_15 X hP (by omega) (h0) rfl dPG_isBad_65 ?_
              refine lv_iload_n hx hb dPG_isBad_68 rfl (lv_at hl 0 rfl) ?_
              refine q_iald i X hP (by omega) (h2) (rfl) (by omega) (by decide) dPG_isBad_69 ?_
              refine lv_iload_n hx hb dPG_isBad_70 rfl (lv_at hl 2 rfl) ?_
              refine lv_icmp_eq (tgt := 83) hx hb dPG_isBad_71 rfl (fun h71 => ?_) (fun h71 => ?_)
              · refine lv_iconst (v := 1) hx hb dPG_isBad_83 (by decide) ?_
                exact q_zret0 X hlk hr (by decide) hP hS dPG_isBad_84 ⟨by rw [show pgBad ow sz fo fa fb = true from any_t (i := i) (by omega) (bad_2 (Or.inl h50) (Or.inl h71))]; rfl, rfl⟩
              · refine lv_aload_n hx hb dPG_isBad_74 rfl (lv_at hl 1 rfl) ?_
                refine g_PG_15 X hP (by omega) (h0) rfl dPG_isBad_75 ?_
                refine lv_iload_n hx hb dPG_isBad_78 rfl (lv_at hl 0 rfl) ?_
                refine q_iald i X hP (by omega) (h2) (rfl) (by omega) (by decide) dPG_isBad_79 ?_
                refine lv_if_ne (tgt := 85) hx hb dPG_isBad_80 rfl (fun h80 => ?_) (fun h80 => ?_)
                · refine lv_iinc (k := 0) (v := nI (i + 1)) hx hb dPG_isBad_85 hl rfl (nI_1 i) (by decide) rfl (fun ls hl => ?_)
                  have hl : lv_has ls 3 [(2, .int (nI (i + 1))), (0, .ref (ad 0)), (1, .int ow)] := hl
                  refine lv_goto (tgt := 2) hx hb dPG_isBad_88 rfl ?_
                  exact ih (i + 1) _ _ (by omega) (fun j hj => by by_cases h : j = i; (· subst h; exact bad_n (fun _ => hwi) (fun _ => ⟨h71, h80⟩)); (· exact hg j (by omega))) hD hP hS hl
                · refine lv_iconst (v := 1) hx hb dPG_isBad_83 (by decide) ?_
                  exact q_zret0 X hlk hr (by decide) hP hS dPG_isBad_84 ⟨by rw [show pgBad ow sz fo fa fb = true from any_t (i := i) (by omega) (bad_2 (Or.inl h50) (Or.inr h80))]; rfl, rfl⟩
            · refine lv_aload_n hx hb dPG_isBad_53 rfl (lv_at hl 1 rfl) ?_
              refine g_PG_9 X hP (by omega) (h0) rfl dPG_isBad_54 ?_
              refine lv_iload_n hx hb dPG_isBad_57 rfl (lv_at hl 0 rfl) ?_
              refine q_iald i X hP (by omega) (h1) (rfl) (by omega) (by decide) dPG_isBad_58 ?_
              refine lv_bipush (v := 7) hx hb dPG_isBad_59 (by decide) ?_
              refine lv_icmp_ne (tgt := 85) hx hb dPG_isBad_61 rfl (fun h61 => ?_) (fun h61 => ?_)
              · refine lv_iinc (k := 0) (v := nI (i + 1)) hx hb dPG_isBad_85 hl rfl (nI_1 i) (by decide) rfl (fun ls hl => ?_)
                have hl : lv_has ls 3 [(2, .int (nI (i + 1))), (0, .ref (ad 0)), (1, .int ow)] := hl
                refine lv_goto (tgt := 2) hx hb dPG_isBad_88 rfl ?_
                exact ih (i + 1) _ _ (by omega) (fun j hj => by by_cases h : j = i; (· subst h; exact bad_n (fun _ => hwi) (fun h => h.elim (fun q => absurd q h50) (fun q => absurd q h61))); (· exact hg j (by omega))) hD hP hS hl
              · refine lv_aload_n hx hb dPG_isBad_64 rfl (lv_at hl 1 rfl) ?_
                refine g_PG_15 X hP (by omega) (h0) rfl dPG_isBad_65 ?_
                refine lv_iload_n hx hb dPG_isBad_68 rfl (lv_at hl 0 rfl) ?_
                refine q_iald i X hP (by omega) (h2) (rfl) (by omega) (by decide) dPG_isBad_69 ?_
                refine lv_iload_n hx hb dPG_isBad_70 rfl (lv_at hl 2 rfl) ?_
                refine lv_icmp_eq (tgt := 83) hx hb dPG_isBad_71 rfl (fun h71 => ?_) (fun h71 => ?_)
                · refine lv_iconst (v := 1) hx hb dPG_isBad_83 (by decide) ?_
                  exact q_zret0 X hlk hr (by decide) hP hS dPG_isBad_84 ⟨by rw [show pgBad ow sz fo fa fb = true from any_t (i := i) (by omega) (bad_2 (Or.inr h61) (Or.inl h71))]; rfl, rfl⟩
                · refine lv_aload_n hx hb dPG_isBad_74 rfl (lv_at hl 1 rfl) ?_
                  refine g_PG_15 X hP (by omega) (h0) rfl dPG_isBad_75 ?_
                  refine lv_iload_n hx hb dPG_isBad_78 rfl (lv_at hl 0 rfl) ?_
                  refine q_iald i X hP (by omega) (h2) (rfl) (by omega) (by decide) dPG_isBad_79 ?_
                  refine lv_if_ne (tgt := 85) hx hb dPG_isBad_80 rfl (fun h80 => ?_) (fun h80 => ?_)
                  · refine lv_iinc (k := 0) (v := nI (i + 1)) hx hb dPG_isBad_85 hl rfl (nI_1 i) (by decide) rfl (fun ls hl => ?_)
                    have hl : lv_has ls 3 [(2, .int (nI (i + 1))), (0, .ref (ad 0)), (1, .int ow)] := hl
                    refine lv_goto (tgt := 2) hx hb dPG_isBad_88 rfl ?_
                    exact ih (i + 1) _ _ (by omega) (fun j hj => by by_cases h : j = i; (· subst h; exact bad_n (fun _ => hwi) (fun _ => ⟨h71, h80⟩)); (· exact hg j (by omega))) hD hP hS hl
                  · refine lv_iconst (v := 1) hx hb dPG_isBad_83 (by decide) ?_
                    exact q_zret0 X hlk hr (by decide) hP hS dPG_isBad_84 ⟨by rw [show pgBad ow sz fo fa fb = true from any_t (i := i) (by omega) (bad_2 (Or.inr h61) (Or.inr h80))]; rfl, rfl⟩
          · have hwi : wi (fb i) i = false := wi_nlt (by omega) h37
            refine lv_iconst (v := 1) hx hb dPG_isBad_40 (by decide) ?_
            exact q_zret0 X hlk hr (by decide) hP hS dPG_isBad_41 ⟨by rw [show pgBad ow sz fo fa fb = true from any_t (i := i) (by omega) (bad_1 h18 hwi)]; rfl, rfl⟩
  exact loop sz 0 _ _ (by omega) (fun j hj => absurd hj (Nat.not_lt_zero j)) hD hP hS hl
set_option maxHeartbeats 4000000 in
set_option maxRecDepth 100000 in
theorem c0_RW_areBad (l : Launch) (D : va_G) (tc : Nat → ClassId) (ad : Nat → Nat) (E : Nat → va_E) (st cs : Int32) (sz : Nat → Nat) (fo fa fb : Nat → Nat → Int32) (hR : isRW tc ad E st cs) (hp : ∀ t, t < 5 → isPG tc ad E (3 + 7 * t) (sz t) (fo t) (fa t) (fb t)) (hs : ∀ t, t < 5 → sz t ≤ 12) : Ct0 l D tc yRW_areBad 1 66 ad E [.ref (ad 0)] (fun o E2 => o = .returned (some (.int (bi (allBad sz fo fa fb)))) ∧ E2 = E) := by
  refine Ct0.ofW (cc := cRW_areBad) (maxL := 2) (ret := (some .boolean)) (own := R_RW) (by decide) rfl w_334 (Nat.le_of_ble_eq_true rfl) ?_
  intro p e s m args below meth c ls X hlk hr hD hP hS hl
  have hx := X.1
  have hb := X.2.1
  have hl : lv_has ls 2 [(0, .ref (ad 0))] := hl
  obtain ⟨rh0, ⟨ra1, rh1, rx1⟩, ⟨ra2, rh2, rx2⟩, ⟨ra3, rh3, rx3⟩, ⟨ra4, rh4, rx4⟩⟩ := hR
  refine lv_iconst (v := 0) hx hb dRW_areBad_0 (by decide) ?_
  refine lv_istore_n hx hb dRW_areBad_1 rfl hl (by decide) rfl (fun ls hl => ?_)
  have hl : lv_has ls 2 [(1, .int 0), (0, .ref (ad 0))] := hl
  have loop : ∀ (r i : Nat)  (H : Heap) (ls : Array Slot), i + r = 5 → (∀ j, j < i → pgBad (nI j) (sz j) (fo j) (fa j) (fb j) = false) → va_D (Aw 66 ad) (wW 66 ad E) → va_P D vwCl (wW 66 ad E) H → va_S (Aw 66 ad) s.heap H [] → lv_has ls 2 [(1, .int (nI i)), (0, .ref (ad 0))] → W p l e (rmD 1) s m args below meth c H [] 0 0 (XQ below (CtQ D 66 ad (fun o E2 => o = .returned (some (.int (bi (allBad sz fo fa fb)))) ∧ E2 = E)) args s 0 0 (fun _ => False)) (F0 m 2 ls []) := by
    intro r
    induction r with
    | zero =>
      intro i  H ls hi hg hD hP hS hl
      refine lv_iload_n hx hb dRW_areBad_2 rfl (lv_at hl 0 rfl) ?_
      refine lv_iconst (v := 5) hx hb dRW_areBad_3 (by decide) ?_
      refine lv_icmp_ge (tgt := 28) hx hb dRW_areBad_4 rfl (fun h4 => ?_) (fun h4 => absurd (nI_le (a := 5) (b := i) (by omega) (by omega)) h4)
      obtain ⟨p0, p1, p2, p3⟩ := hp 0 (by decide)
      refine lv_aload_n hx hb dRW_areBad_28 rfl (lv_at hl 1 rfl) ?_
      refine g_RW_11 X hP (by omega) (rh0) rfl dRW_areBad_29 ?_
      refine lv_iconst (v := 0) hx hb dRW_areBad_32 (by decide) ?_
      refine q_aald (t0 := 3) 0 X hP (by omega) (rh1) rfl (rfl) (by decide) (by decide) (rx1 0 (by omega)) dRW_areBad_33 ?_
      refine g_RW_196 X hP (by omega) (p0) rfl dRW_areBad_34 ?_
      refine lv_if_ne (tgt := 44) hx hb dRW_areBad_37 rfl (fun h37 => ?_) (fun h37 => ?_)
      · refine lv_iconst (v := 0) hx hb dRW_areBad_44 (by decide) ?_
        exact q_zret0 X hlk hr (by decide) hP hS dRW_areBad_45 ⟨by rw [show allBad sz fo fa fb = false from (by unfold allBad; rw [any_f (fun j hj => hg j (by omega))]; simp [show ¬ sz 0 = 0 from fun q => h37 (by rw [q]; rfl)])]; rfl, rfl⟩
      · refine lv_iconst (v := 1) hx hb dRW_areBad_40 (by decide) ?_
        refine lv_goto (tgt := 45) hx hb dRW_areBad_41 rfl ?_
        exact q_zret0 X hlk hr (by decide) hP hS dRW_areBad_45 ⟨by rw [show allBad sz fo fa fb = true from (by unfold allBad; rw [any_f (fun j hj => hg j (by omega))]; simp [show sz 0 = 0 from (nI_eq (by have := hs 0 (by decide); omega) (by decide)).mp h37])]; rfl, rfl⟩
    | succ r ih =>
      intro i  H ls hi hg hD hP hS hl
      refine lv_iload_n hx hb dRW_areBad_2 rfl (lv_at hl 0 rfl) ?_
      refine lv_iconst (v := 5) hx hb dRW_areBad_3 (by decide) ?_
      refine lv_icmp_ge (tgt := 28) hx hb dRW_areBad_4 rfl (fun h4 => absurd h4 (nI_ge (a := i) (b := 5) (by omega) (by omega))) (fun h4 => ?_)
      obtain ⟨p0, p1, p2, p3⟩ := hp i (by omega)
      refine lv_aload_n hx hb dRW_areBad_7 rfl (lv_at hl 1 rfl) ?_
      refine g_RW_11 X hP (by omega) (rh0) rfl dRW_areBad_8 ?_
      refine lv_iload_n hx hb dRW_areBad_11 rfl (lv_at hl 0 rfl) ?_
      refine q_aald (t0 := 3) i X hP (by omega) (rh1) rfl (rfl) (by omega) (by decide) (rx1 i (by omega)) dRW_areBad_12 ?_
      refine lv_iload_n hx hb dRW_areBad_13 rfl (lv_at hl 0 rfl) ?_
      refine x_iE0 (f := fun k => (3 + 7 * i) + k) (x_runVN (C := R_PG) (As := [.int (nI i)]) (rest := []) X (c0_PG_isBad l D tc (fun k => ad (3 + 7 * i + k)) (fun k => E (3 + 7 * i + k)) (sz i) (fo i) (fa i) (fb i) (nI i) p0 p1 p2 p3 (hs i (by omega))) rfl rfl (by decide) (by decide) w_338 w_2 w_335 w_337 sel_PG_isBad ry_PG_isBad (x_recv X hP (by omega) (p0) rfl) (ct_pre X hP hD (fr_lt 4 66 (3 + 7 * i) (by omega)) (fr_inj 4 (3 + 7 * i))) ct_blind hl.1 (Nat.le_of_ble_eq_true rfl) dRW_areBad_14 ⟨Nat.zero_le _, Nat.zero_le _⟩) hD hP hS (fr_lt 4 66 (3 + 7 * i) (by omega)) (fr_inj 4 (3 + 7 * i)) (fun H hD hP hS => ?_)
      refine lv_if_eq (tgt := 22) hx hb dRW_areBad_17 rfl (fun h17 => ?_) (fun h17 => ?_)
      · refine lv_iinc (k := 0) (v := nI (i + 1)) hx hb dRW_areBad_22 hl rfl (nI_1 i) (by decide) rfl (fun ls hl => ?_)
        have hl : lv_has ls 2 [(1, .int (nI (i + 1))), (0, .ref (ad 0))] := hl
        refine lv_goto (tgt := 2) hx hb dRW_areBad_25 rfl ?_
        exact ih (i + 1) _ _ (by omega) (fun j hj => by by_cases h : j = i; (· subst h; exact bi_f h17); (· exact hg j (by omega))) hD hP hS hl
      · refine lv_iconst (v := 1) hx hb dRW_areBad_20 (by decide) ?_
        exact q_zret0 X hlk hr (by decide) hP hS dRW_areBad_21 ⟨by rw [show allBad sz fo fa fb = true from (by unfold allBad; rw [any_t (i := i) (by omega) (bi_t h17)]; rfl)]; rfl, rfl⟩
  exact loop 5 0 _ _ (by omega) (fun j hj => absurd hj (Nat.not_lt_zero j)) hD hP hS hl
end
section
theorem dRW_start_0 : decode cRW_start 0 = .ok (.aload_n 0, 1) := by decide +kernel
theorem dRW_start_1 : decode cRW_start 1 = .ok (.getfield 54, 3) := by decide +kernel
theorem dRW_start_4 : decode cRW_start 4 = .ok (.ifCond .eq 11, 3) := by decide +kernel
theorem dRW_start_7 : decode cRW_start 7 = .ok (.new 85, 3) := by decide +kernel
theorem dRW_start_10 : decode cRW_start 10 = .ok (.dup, 1) := by decide +kernel
theorem dRW_start_11 : decode cRW_start 11 = .ok (.invokespecial 87, 3) := by decide +kernel
theorem dRW_start_14 : decode cRW_start 14 = .ok (.athrow, 1) := by decide +kernel
theorem dRW_start_15 : decode cRW_start 15 = .ok (.aload_n 0, 1) := by decide +kernel
theorem dRW_start_16 : decode cRW_start 16 = .ok (.invokevirtual 88, 3) := by decide +kernel
theorem dRW_start_19 : decode cRW_start 19 = .ok (.ifCond .eq 11, 3) := by decide +kernel
theorem dRW_start_22 : decode cRW_start 22 = .ok (.new 91, 3) := by decide +kernel
theorem dRW_start_25 : decode cRW_start 25 = .ok (.dup, 1) := by decide +kernel
theorem dRW_start_26 : decode cRW_start 26 = .ok (.invokespecial 93, 3) := by decide +kernel
theorem dRW_start_29 : decode cRW_start 29 = .ok (.athrow, 1) := by decide +kernel
theorem dRW_start_30 : decode cRW_start 30 = .ok (.aload_n 0, 1) := by decide +kernel
theorem dRW_start_31 : decode cRW_start 31 = .ok (.iconst 1, 1) := by decide +kernel
theorem dRW_start_32 : decode cRW_start 32 = .ok (.putfield 54, 3) := by decide +kernel
theorem dRW_start_35 : decode cRW_start 35 = .ok (.aload_n 0, 1) := by decide +kernel
theorem dRW_start_36 : decode cRW_start 36 = .ok (.iload_n 1, 1) := by decide +kernel
theorem dRW_start_37 : decode cRW_start 37 = .ok (.putfield 58, 3) := by decide +kernel
theorem dRW_start_40 : decode cRW_start 40 = .ok (.aload_n 0, 1) := by decide +kernel
theorem dRW_start_41 : decode cRW_start 41 = .ok (.getfield 17, 3) := by decide +kernel
theorem dRW_start_44 : decode cRW_start 44 = .ok (.iconst 0, 1) := by decide +kernel
theorem dRW_start_45 : decode cRW_start 45 = .ok (.aaload, 1) := by decide +kernel
theorem dRW_start_46 : decode cRW_start 46 = .ok (.iconst 1, 1) := by decide +kernel
theorem dRW_start_47 : decode cRW_start 47 = .ok (.putfield 94, 3) := by decide +kernel
theorem dRW_start_50 : decode cRW_start 50 = .ok (.aload_n 0, 1) := by decide +kernel
theorem dRW_start_51 : decode cRW_start 51 = .ok (.invokevirtual 98, 3) := by decide +kernel
theorem dRW_start_54 : decode cRW_start 54 = .ok (.ireturn, 1) := by decide +kernel
theorem dRW_step_0 : decode cRW_step 0 = .ok (.iload_n 1, 1) := by decide +kernel
theorem dRW_step_1 : decode cRW_step 1 = .ok (.invokestatic 61, 3) := by decide +kernel
theorem dRW_step_4 : decode cRW_step 4 = .ok (.ifCond .ne 11, 3) := by decide +kernel
theorem dRW_step_7 : decode cRW_step 7 = .ok (.new 102, 3) := by decide +kernel
theorem dRW_step_10 : decode cRW_step 10 = .ok (.dup, 1) := by decide +kernel
theorem dRW_step_11 : decode cRW_step 11 = .ok (.invokespecial 104, 3) := by decide +kernel
theorem dRW_step_14 : decode cRW_step 14 = .ok (.athrow, 1) := by decide +kernel
theorem dRW_step_15 : decode cRW_step 15 = .ok (.aload_n 0, 1) := by decide +kernel
theorem dRW_step_16 : decode cRW_step 16 = .ok (.getfield 54, 3) := by decide +kernel
theorem dRW_step_19 : decode cRW_step 19 = .ok (.ifCond .eq 16, 3) := by decide +kernel
theorem dRW_step_22 : decode cRW_step 22 = .ok (.aload_n 0, 1) := by decide +kernel
theorem dRW_step_23 : decode cRW_step 23 = .ok (.getfield 17, 3) := by decide +kernel
theorem dRW_step_26 : decode cRW_step 26 = .ok (.iload_n 1, 1) := by decide +kernel
theorem dRW_step_27 : decode cRW_step 27 = .ok (.aaload, 1) := by decide +kernel
theorem dRW_step_28 : decode cRW_step 28 = .ok (.getfield 94, 3) := by decide +kernel
theorem dRW_step_31 : decode cRW_step 31 = .ok (.iconst 1, 1) := by decide +kernel
theorem dRW_step_32 : decode cRW_step 32 = .ok (.if_icmp .eq 11, 3) := by decide +kernel
theorem dRW_step_35 : decode cRW_step 35 = .ok (.new 85, 3) := by decide +kernel
theorem dRW_step_38 : decode cRW_step 38 = .ok (.dup, 1) := by decide +kernel
theorem dRW_step_39 : decode cRW_step 39 = .ok (.invokespecial 87, 3) := by decide +kernel
theorem dRW_step_42 : decode cRW_step 42 = .ok (.athrow, 1) := by decide +kernel
theorem dRW_step_43 : decode cRW_step 43 = .ok (.aload_n 0, 1) := by decide +kernel
theorem dRW_step_44 : decode cRW_step 44 = .ok (.getfield 11, 3) := by decide +kernel
theorem dRW_step_47 : decode cRW_step 47 = .ok (.iload_n 1, 1) := by decide +kernel
theorem dRW_step_48 : decode cRW_step 48 = .ok (.aaload, 1) := by decide +kernel
theorem dRW_step_49 : decode cRW_step 49 = .ok (.getfield 105, 3) := by decide +kernel
theorem dRW_step_52 : decode cRW_step 52 = .ok (.aload_n 0, 1) := by decide +kernel
theorem dRW_step_53 : decode cRW_step 53 = .ok (.getfield 17, 3) := by decide +kernel
theorem dRW_step_56 : decode cRW_step 56 = .ok (.iload_n 1, 1) := by decide +kernel
theorem dRW_step_57 : decode cRW_step 57 = .ok (.aaload, 1) := by decide +kernel
theorem dRW_step_58 : decode cRW_step 58 = .ok (.getfield 109, 3) := by decide +kernel
theorem dRW_step_61 : decode cRW_step 61 = .ok (.iaload, 1) := by decide +kernel
theorem dRW_step_62 : decode cRW_step 62 = .ok (.istore_n 2, 1) := by decide +kernel
theorem dRW_step_63 : decode cRW_step 63 = .ok (.aload_n 0, 1) := by decide +kernel
theorem dRW_step_64 : decode cRW_step 64 = .ok (.getfield 11, 3) := by decide +kernel
theorem dRW_step_67 : decode cRW_step 67 = .ok (.iload_n 1, 1) := by decide +kernel
theorem dRW_step_68 : decode cRW_step 68 = .ok (.aaload, 1) := by decide +kernel
theorem dRW_step_69 : decode cRW_step 69 = .ok (.getfield 112, 3) := by decide +kernel
theorem dRW_step_72 : decode cRW_step 72 = .ok (.aload_n 0, 1) := by decide +kernel
theorem dRW_step_73 : decode cRW_step 73 = .ok (.getfield 17, 3) := by decide +kernel
theorem dRW_step_76 : decode cRW_step 76 = .ok (.iload_n 1, 1) := by decide +kernel
theorem dRW_step_77 : decode cRW_step 77 = .ok (.aaload, 1) := by decide +kernel
theorem dRW_step_78 : decode cRW_step 78 = .ok (.getfield 109, 3) := by decide +kernel
theorem dRW_step_81 : decode cRW_step 81 = .ok (.iaload, 1) := by decide +kernel
theorem dRW_step_82 : decode cRW_step 82 = .ok (.istore_n 3, 1) := by decide +kernel
theorem dRW_step_83 : decode cRW_step 83 = .ok (.iload_n 2, 1) := by decide +kernel
theorem dRW_step_84 : decode cRW_step 84 = .ok (.invokestatic 115, 3) := by decide +kernel
theorem dRW_step_87 : decode cRW_step 87 = .ok (.ifCond .ne 12, 3) := by decide +kernel
theorem dRW_step_90 : decode cRW_step 90 = .ok (.aload_n 0, 1) := by decide +kernel
theorem dRW_step_91 : decode cRW_step 91 = .ok (.iload_n 1, 1) := by decide +kernel
theorem dRW_step_92 : decode cRW_step 92 = .ok (.iload_n 2, 1) := by decide +kernel
theorem dRW_step_93 : decode cRW_step 93 = .ok (.iload_n 3, 1) := by decide +kernel
theorem dRW_step_94 : decode cRW_step 94 = .ok (.invokevirtual 118, 3) := by decide +kernel
theorem dRW_step_97 : decode cRW_step 97 = .ok (.iconst 2, 1) := by decide +kernel
theorem dRW_step_98 : decode cRW_step 98 = .ok (.ireturn, 1) := by decide +kernel
theorem dRW_step_99 : decode cRW_step 99 = .ok (.aload_n 0, 1) := by decide +kernel
theorem dRW_step_100 : decode cRW_step 100 = .ok (.iload_n 1, 1) := by decide +kernel
theorem dRW_step_101 : decode cRW_step 101 = .ok (.iload_n 2, 1) := by decide +kernel
theorem dRW_step_102 : decode cRW_step 102 = .ok (.iload_n 3, 1) := by decide +kernel
theorem dRW_step_103 : decode cRW_step 103 = .ok (.invokevirtual 122, 3) := by decide +kernel
theorem dRW_step_106 : decode cRW_step 106 = .ok (.ifCond .eq 11, 3) := by decide +kernel
theorem dRW_step_109 : decode cRW_step 109 = .ok (.new 126, 3) := by decide +kernel
theorem dRW_step_112 : decode cRW_step 112 = .ok (.dup, 1) := by decide +kernel
theorem dRW_step_113 : decode cRW_step 113 = .ok (.invokespecial 128, 3) := by decide +kernel
theorem dRW_step_116 : decode cRW_step 116 = .ok (.athrow, 1) := by decide +kernel
theorem dRW_step_117 : decode cRW_step 117 = .ok (.aload_n 0, 1) := by decide +kernel
theorem dRW_step_118 : decode cRW_step 118 = .ok (.getfield 40, 3) := by decide +kernel
theorem dRW_step_121 : decode cRW_step 121 = .ok (.invokevirtual 129, 3) := by decide +kernel
theorem dRW_step_124 : decode cRW_step 124 = .ok (.ifCond .ne 13, 3) := by decide +kernel
theorem dRW_step_127 : decode cRW_step 127 = .ok (.aload_n 0, 1) := by decide +kernel
theorem dRW_step_128 : decode cRW_step 128 = .ok (.iload_n 1, 1) := by decide +kernel
theorem dRW_step_129 : decode cRW_step 129 = .ok (.iload_n 2, 1) := by decide +kernel
theorem dRW_step_130 : decode cRW_step 130 = .ok (.iload_n 3, 1) := by decide +kernel
theorem dRW_step_131 : decode cRW_step 131 = .ok (.invokevirtual 130, 3) := by decide +kernel
theorem dRW_step_134 : decode cRW_step 134 = .ok (.ifCond .eq 5, 3) := by decide +kernel
theorem dRW_step_137 : decode cRW_step 137 = .ok (.iconst 0, 1) := by decide +kernel
theorem dRW_step_138 : decode cRW_step 138 = .ok (.ireturn, 1) := by decide +kernel
theorem dRW_step_139 : decode cRW_step 139 = .ok (.aload_n 0, 1) := by decide +kernel
theorem dRW_step_140 : decode cRW_step 140 = .ok (.iload_n 1, 1) := by decide +kernel
theorem dRW_step_141 : decode cRW_step 141 = .ok (.iload_n 2, 1) := by decide +kernel
theorem dRW_step_142 : decode cRW_step 142 = .ok (.iload_n 3, 1) := by decide +kernel
theorem dRW_step_143 : decode cRW_step 143 = .ok (.invokevirtual 133, 3) := by decide +kernel
theorem dRW_step_146 : decode cRW_step 146 = .ok (.iconst 1, 1) := by decide +kernel
theorem dRW_step_147 : decode cRW_step 147 = .ok (.ireturn, 1) := by decide +kernel
set_option maxHeartbeats 4000000 in
set_option maxRecDepth 100000 in
theorem c1_RW_start (l : Launch) (hfl : l.flags = pinnedFlags ++ [noTraceFlag]) (D : va_G) (tc : Nat → ClassId) (ad : Nat → Nat) (E : Nat → va_E) (cb : Int32) (sz9 : Nat) (hF : RWf tc ad E) : CtT l D tc yRW_start 6 66 ad E [.ref (ad 0), .int cb] sz9 (fun _ => True) (fun o E2 t9 => E2 = E ∧ ∃ x, o = .threw x ∧ isThr "java/lang/IllegalArgumentException" x sz9 t9) := by
  refine CtT.ofW (cc := cRW_start) (maxL := 2) (ret := (some .int)) (own := R_RW) (by decide) rfl w_277 (Nat.le_of_ble_eq_true rfl) ?_
  intro p e s m args below meth c ls X hlk hr hno hsz9 hTH hex hD hP hS hl
  have hx := X.1
  have hb := X.2.1
  have hP0 := hP
  have hl : lv_has ls 2 [(0, .ref (ad 0)), (1, .int cb)] := hl
  obtain ⟨hR, hpg, hwk, hlo3, hck, ⟨fc, fk, tt0, tt1, tt2⟩, ⟨fr, fp, fw, fd, ⟨b0, b1, b2, b3, b4⟩, hfr, hfp, hfw, hfd⟩, ⟨cr, cp, cw, cd, ⟨c0, c1, c2, c3, c4⟩, hcr, hcp, hcw, hcd⟩⟩ := hF
  have hR0 := hR
  obtain ⟨rh0, ⟨ra1, rh1, rx1⟩, ⟨ra2, rh2, rx2⟩, ⟨ra3, rh3, rx3⟩, ⟨ra4, rh4, rx4⟩⟩ := hR
  obtain ⟨ffo, ffa, ffb, hpp⟩ : ∃ fo fa fb : Nat → Nat → Int32, ∀ t, t < 5 → isPG tc ad E (3 + 7 * t) 0 (fo t) (fa t) (fb t) := pick3 hpg
  refine lv_aload_n hx hb dRW_start_0 rfl (lv_at hl 0 rfl) ?_
  refine g_RW_54 X hP (by omega) (rh0) rfl dRW_start_1 ?_
  refine lv_if_eq (tgt := 15) hx hb dRW_start_4 rfl (fun h4 => ?_) (fun h4 => absurd (rfl) h4)
  refine lv_aload_n hx hb dRW_start_15 rfl (lv_at hl 0 rfl) ?_
  refine x_iE0 (f := fun k => 0 + k) (x_runV (C := R_RW) (As := []) (rest := []) X (c0_RW_areBad l D tc (fun k => ad (0 + k)) (fun k => E (0 + k)) 0 0 (fun _ => 0) ffo ffa ffb (by simpa only [Nat.zero_add] using hR0) (fun t ht => by simpa only [Nat.zero_add] using hpp t ht) (fun t ht => Nat.zero_le _)) rfl rfl (by decide) (by decide) w_334 w_1 w_331 w_333 sel_RW_areBad ry_RW_areBad (x_recv X hP (by omega) (rh0) rfl) (ct_pre X hP hD (fr_lt 66 66 0 (by omega)) (fr_inj 66 0)) ct_blind hl.1 (Nat.le_of_ble_eq_true rfl) dRW_start_16 ⟨Nat.zero_le _, Nat.zero_le _⟩) hD hP hS (fr_lt 66 66 0 (by omega)) (fr_inj 66 0) (fun H hD hP hS => ?_)
  refine lv_if_eq (tgt := 30) hx hb dRW_start_19 rfl (fun h19 => absurd h19 (by rw [show allBad (fun _ => 0) _ _ _ = true from (by unfold allBad; simp)]; decide)) (fun h19 => ?_)
  exact q_thr "java/lang/IllegalArgumentException" X hlk hfl (own_of own_IAE X.2.2.2.2.1 hTH) (by decide) w_339 w_340 w_14 hno hS hsz9 hP0 dRW_start_22 dRW_start_25 dRW_start_26 dRW_start_29 hl.1 (by decide) (fun t x hx => ⟨rfl, x, rfl, hx⟩)
set_option maxHeartbeats 4000000 in
set_option maxRecDepth 100000 in
theorem c1_RW_step (l : Launch) (hfl : l.flags = pinnedFlags ++ [noTraceFlag]) (D : va_G) (tc : Nat → ClassId) (ad : Nat → Nat) (E : Nat → va_E) (t : Int32) (sz9 : Nat) (hF : RWf tc ad E) : CtT l D tc yRW_step 6 66 ad E [.ref (ad 0), .int t] sz9 (fun _ => True) (fun o E2 t9 => E2 = E ∧ ∃ x, o = .threw x ∧ isThr (if wi t 5 = true then "java/lang/IllegalStateException" else "java/lang/IndexOutOfBoundsException") x sz9 t9) := by
  refine CtT.ofW (cc := cRW_step) (maxL := 4) (ret := (some .int)) (own := R_RW) (by decide) rfl w_365 (Nat.le_of_ble_eq_true rfl) ?_
  intro p e s m args below meth c ls X hlk hr hno hsz9 hTH hex hD hP hS hl
  have hx := X.1
  have hb := X.2.1
  have hP0 := hP
  have hl : lv_has ls 4 [(0, .ref (ad 0)), (1, .int t)] := hl
  obtain ⟨hR, hpg, hwk, hlo3, hck, ⟨fc, fk, tt0, tt1, tt2⟩, ⟨fr, fp, fw, fd, ⟨b0, b1, b2, b3, b4⟩, hfr, hfp, hfw, hfd⟩, ⟨cr, cp, cw, cd, ⟨c0, c1, c2, c3, c4⟩, hcr, hcp, hcw, hcd⟩⟩ := hF
  have hR0 := hR
  obtain ⟨rh0, ⟨ra1, rh1, rx1⟩, ⟨ra2, rh2, rx2⟩, ⟨ra3, rh3, rx3⟩, ⟨ra4, rh4, rx4⟩⟩ := hR
  refine lv_iload_n hx hb dRW_step_0 rfl (lv_at hl 1 rfl) ?_
  refine x_iE0 (f := fun k => 0 + k) (x_runS (As := [.int t]) (rest := []) X (c0_RW_isThread l D tc (fun k => ad (0 + k)) (fun k => E (0 + k)) t) rfl rfl (by decide) (by decide) w_157 w_1 w_155 w_156 ry_RW_isThread (ct_pre X hP hD (fr_lt 0 66 0 (by omega)) (fr_inj 0 0)) ct_blind hl.1 (Nat.le_of_ble_eq_true rfl) dRW_step_1 ⟨Nat.zero_le _, Nat.zero_le _⟩) hD hP hS (fr_lt 0 66 0 (by omega)) (fr_inj 0 0) (fun H hD hP hS => ?_)
  refine lv_if_ne (tgt := 15) hx hb dRW_step_4 rfl (fun h4 => ?_) (fun h4 => ?_)
  · refine lv_aload_n hx hb dRW_step_15 rfl (lv_at hl 0 rfl) ?_
    refine g_RW_54 X hP (by omega) (rh0) rfl dRW_step_16 ?_
    refine lv_if_eq (tgt := 35) hx hb dRW_step_19 rfl (fun h19 => ?_) (fun h19 => absurd (rfl) h19)
    exact q_thr "java/lang/IllegalStateException" X hlk hfl (own_of own_ISE X.2.2.2.2.1 hTH) (by decide) w_278 w_279 w_13 hno hS hsz9 hP0 dRW_step_35 dRW_step_38 dRW_step_39 dRW_step_42 hl.1 (by decide) (fun t x hx => ⟨rfl, x, rfl, by rw [if_pos (bi_t h4)]; exact hx⟩)
  · exact q_thr "java/lang/IndexOutOfBoundsException" X hlk hfl (own_of own_IOB X.2.2.2.2.1 hTH) (by decide) w_366 w_367 w_15 hno hS hsz9 hP0 dRW_step_7 dRW_step_10 dRW_step_11 dRW_step_14 hl.1 (by decide) (fun t x hx => ⟨rfl, x, rfl, by rw [if_neg (by rw [bi_f h4]; decide)]; exact hx⟩)
end
section
/-! METHODS WITH HANDLERS: the law's start and step -/
theorem MetX.ofWW {l : Launch} {y : MethodName} {ws : List Cond} {rm : Room} {Pc : Array Value → State → Prop} {Qc : Array Value → State → Outcome → State → Prop} {mc ms : Nat} {free : Addr → Prop} {cc : ByteArray} {maxL : Nat} {ret : Option FieldType} {hh : List (Nat × Nat × Nat × Nat)}
    (hy : plainName y.cls = true) (hw : Cond.codeWith y cc maxL ret hh ∈ ws)
    (body : ∀ p e s m args below meth c s₁, BodyLoose p l y (headSpec ws rm) cc maxL ret e s m args below meth c s₁ → c.maxLocals = maxL → c.exceptionTable.toList.map (fun h => (h.startPc, h.endPc, h.handlerPc, h.catchType)) = hh → Pc args s →
      W p l e (headSpec ws rm).room s m args below meth c s.heap [] 0 0 (XQ below Qc args s mc ms free) (entryFrame m args maxL)) : MetX l y ws rm Pc Qc mc ms free := by
  refine MetFree.of_bodyS (code := cc) (maxLocals := maxL) (ret := ret) hy ?_ ?_
  · intro args s m h hn
    obtain ⟨m9, meth, c, hn9, h1, h2, h3, h4, -, h5, h6, -⟩ := Cond.codeWith_spec (atoms_spec (ws := ws) h _ hw)
    cases hn.symm.trans hn9
    exact ⟨meth, c, h1, h2, h3, h4, h5, h6⟩
  · intro p e s m args below meth c s₁ B hml hP _
    have hh0 : s₁.heap = s.heap := by rw [B.state]; rfl
    have htab : c.exceptionTable.toList.map (fun h => (h.startPc, h.endPc, h.handlerPc, h.catchType)) = hh := by
      obtain ⟨m9, meth9, c9, hn9, h1, h2, -, -, h7, -⟩ := Cond.codeWith_spec (atoms_spec (ws := ws) B.pre _ hw)
      cases B.named.symm.trans hn9
      cases B.method.symm.trans h1
      cases (Stand.of_body B).code.symm.trans h2
      exact h7
    obtain ⟨t, a1, o, b1, b2, b3⟩ := body p e s m args below meth c s₁ B hml htab hP s₁ hh0 (Stand.of_body B)
    exact ⟨t, o, a1, b1, b2, ⟨b3.1, b3.2⟩⟩
theorem go_one {e : Env} {s U : State} {f : JFrame} {a : Addr} {args : Array Value} {own nm C : String} {ct : Nat} {cell : Cell} {x : ExceptionTableEntry} {t : List ExceptionTableEntry} (hWU : s.WarmedH U.vm) (hpl : e.platform.magicAccessors = ({} : Platform).magicAccessors) (hown : s.vm.findClass own = some f.method.cls)
    (hl : (Cond.classLink own ct nm).before args s = true) (hcell : U.heap[a]? = some cell) (hvm : cell.vm = .none) (hC : s.vm.findClass C = some cell.cls) (hx : covers x f.pc = true) (hct : x.catchType = ct) (h0 : ct ≠ 0) :
    ∃ (vm1 : Vm) (cN : ClassId), s.WarmedH vm1 ∧ s.vm.findClass nm = some cN ∧ ∀ (Q : Handler → Pre) (E : CtlPost) (d : Bool) (acts : List Action), wp (findHandler.go f a (x :: t)) Q E e d acts U ↔ if s.vm.assignable cell.cls cN = true then Q (.found x.handlerPc) d acts (U.setVm vm1) else wp (findHandler.go f a t) Q E e d acts (U.setVm vm1) := by
  obtain ⟨cN, hfc, hcl⟩ := Cond.classLink_spec hown hl e.platform hpl
  obtain ⟨hg₁, hwarm₁, hready₁⟩ := State.classEntry (e := e) hWU hcl
  subst hct
  refine ⟨U.vm.noted f.method.cls x.catchType (.cls cN), cN, hwarm₁, hfc, fun Q E d acts => ?_⟩
  have h := go_cold (t := t) (Q := Q) (E := E) (d := d) (acts := acts) hx h0 hg₁ hcell (fun k => by rw [hvm]; intro q; cases q) (Vm.classAt_of_findClass (name := C) (by rw [hwarm₁.alike.findClass]; exact hC)) (Vm.classAt_of_findClass (name := nm) (by rw [hwarm₁.alike.findClass]; exact hfc)) (by no_record)
  rw [hwarm₁.alike.assignable] at h
  exact h
section XH
variable {p : Program} {l : Launch} {e : Env} {R : Room} {s : State} {m : MethodId} {args : Array Value} {below : List Frame} {meth : Method} {c : Code} {H : Heap} {locs : List Loc} {cells slots : Nat} {Q : State → Prop}
variable {cc : ByteArray} {nL pc n : Nat} {own : String} {D : va_G} {tc : Nat → ClassId} {ad : Nat → Nat} {E : Nat → va_E} {A : Nat → Prop} {H0 : Heap} {ls : Array Slot} {rest st0 As : List Value} {post : Outcome → (Nat → va_E) → State → Prop} {sz : Nat}
theorem ctT_blind {n : Nat} {ad : Nat → Nat} {E : Nat → va_E} {av : List Value} {ex : State → Prop} (hex : ∀ u U : State, u.vm.Alike U.vm → ex u → ex U) : FrameBlind (CtTP D tc n ad E av sz ex) := fun a U g mk h => ⟨h.1, ct_blind a U g mk h.2.1, h.2.2.1.moved (Vm.Alike.refl U.vm) (fun _ _ => rfl), hex U _ (Vm.Alike.refl U.vm) h.2.2.2⟩
theorem ctT_pre {m2 : Nat} {f : Nat → Nat} {av : List Value} {ex : State → Prop} (hex : ∀ u U : State, u.vm.Alike U.vm → ex u → ex U) (hex0 : ex s) (hTH : TH s) (hsame : ∀ q, q < s.heap.size → H[q]? = s.heap[q]?) (hsz : H.size = sz) (X : Cx p s m args c cc nL own D tc) (hP : va_P D vwCl (wW n ad E) H) (hD : va_D A (wW n ad E)) (hf : ∀ k, k < m2 → f k < n) (hi : ∀ i j, i < m2 → j < m2 → f i = f j → i = j) :
    ∀ U : State, U.heap = H → s.WarmedH U.vm → CtTP D tc m2 (fun k => ad (f k)) (fun k => E (f k)) av sz ex av.toArray U := fun U hU hW =>
  ⟨by rw [hU]; exact hsz, ct_pre X hP hD hf hi U hU hW, hTH.moved hW.alike (fun q hq => by rw [hU]; exact hsame q hq), hex s U hW.alike hex0⟩
/-- behind a call of a method that makes one cell -/
theorem x_tgo {m2 : Nat} {f : Nat → Nat} {a : Array Value} (hr : XRun p l e R s m args below meth c H locs cells slots 1 6 pc ls st0 rest (CtTQ D m2 (fun k => ad (f k)) sz post a) (fun q => Aw m2 (fun k => ad (f k)) q ∨ sz ≤ q)) (hsz : H.size = sz) (hA : ∀ q, H0.size ≤ q → A q) (hD : va_D A (wW n ad E)) (hP : va_P D vwCl (wW n ad E) H) (hS : va_S A H0 H locs) (hf : ∀ k, k < m2 → f k < n) (hi : ∀ i j, i < m2 → j < m2 → f i = f j → i = j)
    (kk : ∀ (o : Outcome) (E1 : Nat → va_E) (t : State) (locs1 : List Loc), post o E1 t → va_D A (wW n ad (wU m2 f E E1)) → va_P D vwCl (wW n ad (wU m2 f E E1)) t.heap → va_S A H0 t.heap locs1 →
      ∀ T' : State, T'.heap = t.heap → T'.vm = t.vm → Stand p l e R s m args below meth c T' locs1 (cells + 1) (slots + 6) → ∃ g2 : State, (∀ v, o = .returned v → g2 = T'.setTop (F0 m (pc + 3) ls (v.toList ++ rest))) ∧ (∀ x, o = .threw x → g2 = (T'.setTop (F0 m pc ls rest)).pushFrame (.throwing x)) ∧ ∃ t, Steps p.tables e below g2 t ∧ Q t) :
    W p l e R s m args below meth c H locs cells slots Q (F0 m pc ls st0) := by
  intro T hT X
  obtain ⟨o, st₀, t, T', L, h0, X', hL, e1, e2, ⟨⟨E1, hp, hP1⟩, hz, hk⟩, hret, hthr⟩ := hr T hT X
  rw [h0] at hz hk
  have hsub : ∀ q, Aw m2 (fun k => ad (f k)) q ∨ sz ≤ q → A q := fun q h => by
    rcases h with ⟨k, h1, h2⟩ | h
    · rw [h2]; exact wW_in hD (hf k h1)
    · exact hA q (by have := hS.1; omega)
  have hPn : va_P D vwCl (wW n ad (wU m2 f E E1)) t.heap := wW_back hP hD hf hi (fun q h1 h2 => hk q h1 (fun h => h.elim (fun ⟨k, h3, h4⟩ => h2 (Or.inl ⟨k, E (f k), by rw [wW_get h3 rfl, h4]⟩)) (fun h => by omega))) hP1
  have hSn : va_S A H0 t.heap (locs ++ L) := ⟨Nat.le_trans hS.1 hz, fun q h1 h2 => by rw [hk q (Nat.lt_of_lt_of_le h1 hS.1) (fun z => h2 (hsub q z))]; exact hS.2.1 q h1 h2, fun q hq => by
    rcases List.mem_append.mp hq with h | h
    · exact hS.2.2 q h
    · exact hsub _ (hL q h)⟩
  obtain ⟨g2, g3, g4, t2, a1, b1⟩ := kk o E1 t (locs ++ L) hp (wW_D hD) hPn hSn T' e1 e2 X'
  cases o with
  | returned v => exact ⟨t2, hret v rfl t2 (by rw [← g3 v rfl]; exact a1), b1⟩
  | threw x => exact ⟨t2, hthr x rfl t2 (by rw [← g4 x rfl]; exact a1), b1⟩
theorem x_catch {m2 : Nat} {f : Nat → Nat} {a : Array Value} {C : String} {hpc : Nat} (hr : XRun p l e R s m args below meth c H locs cells slots 1 6 pc ls st0 rest (CtTQ D m2 (fun k => ad (f k)) sz post a) (fun q => Aw m2 (fun k => ad (f k)) q ∨ sz ≤ q)) (hsz : H.size = sz) (hA : ∀ q, H0.size ≤ q → A q) (hD : va_D A (wW n ad E)) (hP : va_P D vwCl (wW n ad E) H) (hS : va_S A H0 H locs) (hf : ∀ k, k < m2 → f k < n) (hi : ∀ i j, i < m2 → j < m2 → f i = f j → i = j)
    (ho : ∀ o E1 t, post o E1 t → E1 = (fun k => E (f k)) ∧ ∃ x, o = .threw x ∧ isThr C x sz t)
    (hfind : ∀ (T : State) (locs1 : List Loc) (x : Nat) (cell : Cell), Stand p l e R s m args below meth c T locs1 (cells + 1) (slots + 6) → T.heap[x]? = some cell → cell.vm = .none → s.vm.findClass C = some cell.cls → ∃ vm1 : Vm, s.WarmedH vm1 ∧ FindsC e ((T.setTop (F0 m pc ls rest)).pushFrame (.throwing x)) (F0 m pc ls rest) x (.found hpc) (((T.setTop (F0 m pc ls rest)).pushFrame (.throwing x)).setVm vm1))
    (kk : ∀ (x : Nat) (H1 : Heap) (locs1 : List Loc), va_D A (wW n ad E) → va_P D vwCl (wW n ad E) H1 → va_S A H0 H1 locs1 → W p l e R s m args below meth c H1 locs1 (cells + 1) (slots + 6) Q (F0 m hpc ls [.ref x])) :
    W p l e R s m args below meth c H locs cells slots Q (F0 m pc ls st0) := by
  refine x_tgo hr hsz hA hD hP hS hf hi (fun o E1 t locs1 hp h1 h2 h3 T' hT hvm X' => ?_)
  obtain ⟨he, x, rfl, cell, hc, hv, hfc, -⟩ := ho o E1 t hp
  rw [wU_same he] at h1 h2
  obtain ⟨vm1, hW1, hF⟩ := hfind T' locs1 x cell X' (by rw [hT]; exact hc) hv (by rw [← X'.warmed.alike.findClass, hvm]; exact hfc)
  obtain ⟨t2, a1, b1⟩ := kk x t.heap locs1 h1 h2 h3 (T'.setVm vm1) hT (X'.noted hW1)
  exact ⟨_, fun v hv => (by cases hv), fun x hx => (by cases hx; rfl), t2, Steps.caughtC (g := F0 m pc ls rest) X'.here hF a1, b1⟩
/-- the first handler's class is the thrown one's -/
theorem fd1 {T : State} {locs1 : List Loc} {k1 k2 x : Nat} {cell : Cell} {C : String} {a1 b1 p1 ct : Nat} {tl : List (Nat × Nat × Nat × Nat)} {g : JFrame} (hg : g.method = m) (XX : Stand p l e R s m args below meth c T locs1 k1 k2) (X : Cx p s m args c cc nL own D tc) (htab : c.exceptionTable.toList.map (fun h => (h.startPc, h.endPc, h.handlerPc, h.catchType)) = (a1, b1, p1, ct) :: tl)
    (hpc : a1 ≤ g.pc ∧ g.pc < b1) (h0 : ct ≠ 0) (hl : Cond.classLink own ct C ∈ WS) (hca : Cond.castable C C ∈ WS) (hc : T.heap[x]? = some cell) (hv : cell.vm = .none) (hC : s.vm.findClass C = some cell.cls) :
    ∃ vm1 : Vm, s.WarmedH vm1 ∧ FindsC e ((T.setTop g).pushFrame (.throwing x)) g x (.found p1) (((T.setTop g).pushFrame (.throwing x)).setVm vm1) := by
  have hpl : e.platform.magicAccessors = ({} : Platform).magicAccessors := by rw [XX.admits.platform]
  have hvmS : ((T.setTop g).pushFrame (.throwing x)).vm = T.vm := Stand.throwing_vm T g x
  have hhS : ((T.setTop g).pushFrame (.throwing x)).heap = T.heap := Stand.throwing_heap T g x
  obtain ⟨x1, es, hes, hx1, -⟩ := List.map_eq_cons_iff.mp htab
  simp only [Prod.mk.injEq] at hx1
  obtain ⟨e1, e2, e3, e4⟩ := hx1
  obtain ⟨vm1, cN, hW1, hfN, hgo⟩ := go_one (e := e) (s := s) (U := (T.setTop g).pushFrame (.throwing x)) (f := g) (a := x) (args := args) (own := own) (nm := C) (C := C) (ct := ct) (x := x1) (t := es) (by rw [hvmS]; exact XX.warmed) hpl (by rw [hg]; exact X.2.2.2.1) (X.2.2.2.2.1 _ hl) (by rw [hhS]; exact hc) hv hC (by simp [covers, e1, e2, hpc.1, hpc.2]) e4 h0
  obtain ⟨cA, cB, q1, q2, q3⟩ := Cond.castable_spec (X.2.2.2.2.1 _ hca)
  cases hC.symm.trans q1
  cases hfN.symm.trans q2
  refine ⟨vm1, hW1, fun Q E d acts => ?_⟩
  rw [W.findHandler_eq (meth := meth) (code := c) (by rw [hvmS, hg]; exact XX.method') XX.code, hes, hgo, if_pos q3, e3]
/-- the second's -/
theorem fd2 {T : State} {locs1 : List Loc} {k1 k2 x : Nat} {cell : Cell} {C N1 : String} {a1 b1 p1 c1 a2 b2 p2 c2 : Nat} {tl : List (Nat × Nat × Nat × Nat)} {g : JFrame} (hg : g.method = m) (XX : Stand p l e R s m args below meth c T locs1 k1 k2) (X : Cx p s m args c cc nL own D tc) (htab : c.exceptionTable.toList.map (fun h => (h.startPc, h.endPc, h.handlerPc, h.catchType)) = (a1, b1, p1, c1) :: (a2, b2, p2, c2) :: tl)
    (hpc : a1 ≤ g.pc ∧ g.pc < b1) (hpc2 : a2 ≤ g.pc ∧ g.pc < b2) (h0 : c1 ≠ 0) (h02 : c2 ≠ 0) (hl : Cond.classLink own c1 N1 ∈ WS) (hn : va_Nc C N1 s) (hl2 : Cond.classLink own c2 C ∈ WS) (hca : Cond.castable C C ∈ WS) (hc : T.heap[x]? = some cell) (hv : cell.vm = .none) (hC : s.vm.findClass C = some cell.cls) :
    ∃ vm1 : Vm, s.WarmedH vm1 ∧ FindsC e ((T.setTop g).pushFrame (.throwing x)) g x (.found p2) (((T.setTop g).pushFrame (.throwing x)).setVm vm1) := by
  have hpl : e.platform.magicAccessors = ({} : Platform).magicAccessors := by rw [XX.admits.platform]
  have hvmS : ((T.setTop g).pushFrame (.throwing x)).vm = T.vm := Stand.throwing_vm T g x
  have hhS : ((T.setTop g).pushFrame (.throwing x)).heap = T.heap := Stand.throwing_heap T g x
  obtain ⟨x1, es, hes, hx1, hes2⟩ := List.map_eq_cons_iff.mp htab
  obtain ⟨x2, es2, hes3, hx2, -⟩ := List.map_eq_cons_iff.mp hes2
  simp only [Prod.mk.injEq] at hx1 hx2
  obtain ⟨e1, e2, e3, e4⟩ := hx1
  obtain ⟨f1, f2, f3, f4⟩ := hx2
  subst hes3
  obtain ⟨vm1, cN, hW1, hfN, hgo⟩ := go_one (e := e) (s := s) (U := (T.setTop g).pushFrame (.throwing x)) (f := g) (a := x) (args := args) (own := own) (nm := N1) (C := C) (ct := c1) (x := x1) (t := x2 :: es2) (by rw [hvmS]; exact XX.warmed) hpl (by rw [hg]; exact X.2.2.2.1) (X.2.2.2.2.1 _ hl) (by rw [hhS]; exact hc) hv hC (by simp [covers, e1, e2, hpc.1, hpc.2]) e4 h0
  obtain ⟨vm2, cM, hW2, hfM, hgo2⟩ := go_one (e := e) (s := s) (U := ((T.setTop g).pushFrame (.throwing x)).setVm vm1) (f := g) (a := x) (args := args) (own := own) (nm := C) (C := C) (ct := c2) (x := x2) (t := es2) hW1 hpl (by rw [hg]; exact X.2.2.2.1) (X.2.2.2.2.1 _ hl2) (by show ((T.setTop g).pushFrame (.throwing x)).heap[x]? = _; rw [hhS]; exact hc) hv hC (by simp [covers, f1, f2, hpc2.1, hpc2.2]) f4 h02
  obtain ⟨cA, cB, q1, q2, q3⟩ := Cond.castable_spec (X.2.2.2.2.1 _ hca)
  cases hC.symm.trans q1
  cases hfM.symm.trans q2
  obtain ⟨cA', cB', r1, r2, r3⟩ := hn
  cases hC.symm.trans r1
  cases hfN.symm.trans r2
  refine ⟨vm2, hW2, fun Q E d acts => ?_⟩
  rw [W.findHandler_eq (meth := meth) (code := c) (by rw [hvmS, hg]; exact XX.method') XX.code, hes, hgo, if_neg (by rw [r3]; decide), hgo2, if_pos q3, f3]
  rfl
end XH
end
section
theorem dLW_start_0 : decode cLW_start 0 = .ok (.aload_n 2, 1) := by decide +kernel
theorem dLW_start_1 : decode cLW_start 1 = .ok (.iconst 0, 1) := by decide +kernel
theorem dLW_start_2 : decode cLW_start 2 = .ok (.aload_n 0, 1) := by decide +kernel
theorem dLW_start_3 : decode cLW_start 3 = .ok (.iload_n 1, 1) := by decide +kernel
theorem dLW_start_4 : decode cLW_start 4 = .ok (.invokevirtual 7, 3) := by decide +kernel
theorem dLW_start_7 : decode cLW_start 7 = .ok (.i2l, 1) := by decide +kernel
theorem dLW_start_8 : decode cLW_start 8 = .ok (.lastore, 1) := by decide +kernel
theorem dLW_start_9 : decode cLW_start 9 = .ok (.goto 9, 3) := by decide +kernel
theorem dLW_start_12 : decode cLW_start 12 = .ok (.astore_n 3, 1) := by decide +kernel
theorem dLW_start_13 : decode cLW_start 13 = .ok (.iconst 1, 1) := by decide +kernel
theorem dLW_start_14 : decode cLW_start 14 = .ok (.ireturn, 1) := by decide +kernel
theorem dLW_start_15 : decode cLW_start 15 = .ok (.astore_n 3, 1) := by decide +kernel
theorem dLW_start_16 : decode cLW_start 16 = .ok (.iconst 2, 1) := by decide +kernel
theorem dLW_start_17 : decode cLW_start 17 = .ok (.ireturn, 1) := by decide +kernel
theorem dLW_start_18 : decode cLW_start 18 = .ok (.iconst 0, 1) := by decide +kernel
theorem dLW_start_19 : decode cLW_start 19 = .ok (.ireturn, 1) := by decide +kernel
theorem dLW_step_0 : decode cLW_step 0 = .ok (.aload_n 2, 1) := by decide +kernel
theorem dLW_step_1 : decode cLW_step 1 = .ok (.iconst 0, 1) := by decide +kernel
theorem dLW_step_2 : decode cLW_step 2 = .ok (.aload_n 0, 1) := by decide +kernel
theorem dLW_step_3 : decode cLW_step 3 = .ok (.iload_n 1, 1) := by decide +kernel
theorem dLW_step_4 : decode cLW_step 4 = .ok (.invokevirtual 17, 3) := by decide +kernel
theorem dLW_step_7 : decode cLW_step 7 = .ok (.i2l, 1) := by decide +kernel
theorem dLW_step_8 : decode cLW_step 8 = .ok (.lastore, 1) := by decide +kernel
theorem dLW_step_9 : decode cLW_step 9 = .ok (.goto 12, 3) := by decide +kernel
theorem dLW_step_12 : decode cLW_step 12 = .ok (.astore_n 3, 1) := by decide +kernel
theorem dLW_step_13 : decode cLW_step 13 = .ok (.iconst 1, 1) := by decide +kernel
theorem dLW_step_14 : decode cLW_step 14 = .ok (.ireturn, 1) := by decide +kernel
theorem dLW_step_15 : decode cLW_step 15 = .ok (.astore_n 3, 1) := by decide +kernel
theorem dLW_step_16 : decode cLW_step 16 = .ok (.iconst 2, 1) := by decide +kernel
theorem dLW_step_17 : decode cLW_step 17 = .ok (.ireturn, 1) := by decide +kernel
theorem dLW_step_18 : decode cLW_step 18 = .ok (.astore_n 3, 1) := by decide +kernel
theorem dLW_step_19 : decode cLW_step 19 = .ok (.iconst 3, 1) := by decide +kernel
theorem dLW_step_20 : decode cLW_step 20 = .ok (.ireturn, 1) := by decide +kernel
theorem dLW_step_21 : decode cLW_step 21 = .ok (.iconst 0, 1) := by decide +kernel
theorem dLW_step_22 : decode cLW_step 22 = .ok (.ireturn, 1) := by decide +kernel
section QI
variable {p : Program} {l : Launch} {e : Env} {R : Room} {s : State} {m : MethodId} {args : Array Value} {below : List Frame} {meth : Method} {c : Code} {H : Heap} {locs : List Loc}
variable {cc : ByteArray} {nL pc n : Nat} {own : String} {D : va_G} {tc : Nat → ClassId} {ad : Nat → Nat} {E : Nat → va_E} {ls : Array Slot} {post : Outcome → (Nat → va_E) → State → Prop} {sz : Nat}
theorem q_iretT {v : Int32} (X : Cx p s m args c cc nL own D tc) (hlk : meth.locks = false) (hr : meth.sig.returnType = some .int) (hP : va_P D vwCl (wW n ad E) H) (hS : va_S (fun q => Aw n ad q ∨ sz ≤ q) s.heap H locs) (hdg : decode cc pc = .ok (.ireturn, 1)) (hp : ∀ t, post (.returned (some (.int v))) E t) :
    W p l e R s m args below meth c H locs 1 6 (XQ below (CtTQ D n ad sz post) args s 1 6 (fun q => Aw n ad q ∨ sz ≤ q)) (F0 m pc ls [.int v]) :=
  W.mono (fun _ h => XQ.ofM h) (W.iret X.1 X.2.1 hr (fun t ht _ => ⟨⟨E, hp t, by rw [ht]; exact hP⟩, hS.F ht⟩) hS.2.2 hdg hlk)
end QI
set_option maxHeartbeats 4000000 in
set_option maxRecDepth 100000 in
theorem c1_LW_start (l : Launch) (hfl : l.flags = pinnedFlags ++ [noTraceFlag]) (D : va_G) (tc : Nat → ClassId) (ad : Nat → Nat) (E : Nat → va_E) (a1 : Int32) (g : Nat → Int64) (sz9 : Nat) (hF : RWf tc ad E) (hO : E 66 = .inl (tc 1, 1, .inr (.inl g))) : CtT l D tc yLW_start 7 67 ad E [.ref (ad 0), .int a1, .ref (ad 66)] sz9 (va_Nc "java/lang/IllegalArgumentException" "java/lang/IllegalStateException") (fun o E2 t9 => o = .returned (some (.int 2)) ∧ E2 = E) := by
  refine MetX.ofWW (cc := cLW_start) (maxL := 4) (ret := some .int) (by decide) w_271 ?_
  intro p e s m args below meth c s₁ B hml htab hP
  obtain ⟨hsz9, ⟨rfl, hP, hK, hD⟩, hTH, hex⟩ := hP
  rw [lg_entry_eq]
  have hts := atoms_spec (ws := WS) B.pre
  have X : Cx p s m _ c cLW_start 4 R_LW D tc := ⟨B.exec, B.bytes, hml, findClass_of_methodNamed B.named, hts, hK⟩
  have hlk := B.notSynchronized
  have hr := B.returns
  have hx := X.1
  have hb := X.2.1
  have hD : va_D (fun q => Aw 67 ad q ∨ sz9 ≤ q) (wW 67 ad E) := hD.weaken (fun _ _ _ h => Or.inl h)
  have hA : ∀ q, s.heap.size ≤ q → (Aw 67 ad q ∨ sz9 ≤ q) := fun q h => Or.inr (by omega)
  have hS : va_S (fun q => Aw 67 ad q ∨ sz9 ≤ q) s.heap s.heap [] := va_S.rf
  have hl := lv_entry [Value.ref (ad 0), .int a1, .ref (ad 66)] (n := 4) (Nat.le_of_ble_eq_true rfl)
  generalize (lg_sl [Value.ref (ad 0), .int a1, .ref (ad 66)] ++ List.replicate (4 - (lg_sl [Value.ref (ad 0), .int a1, .ref (ad 66)]).length) Slot.unset).toArray = ls at hl ⊢
  have hl : lv_has ls 4 [(0, .ref (ad 0)), (1, .int a1), (2, .ref (ad 66))] := hl
  have h0 := hF.1.1
  refine lv_aload_n hx hb dLW_start_0 rfl (lv_at hl 2 rfl) ?_
  refine lv_iconst (v := 0) hx hb dLW_start_1 (by decide) ?_
  refine lv_aload_n hx hb dLW_start_2 rfl (lv_at hl 0 rfl) ?_
  refine lv_iload_n hx hb dLW_start_3 rfl (lv_at hl 1 rfl) ?_
  refine x_catch (f := fun k => 0 + k) (C := "java/lang/IllegalArgumentException") (hpc := 15) (x_runV (C := R_RW) (b := ad 0) (As := [.int a1]) (rest := [.int 0, .ref (ad 66)]) X (c1_RW_start l hfl D tc (fun k => ad (0 + k)) (fun k => E (0 + k)) a1 sz9 (by simpa only [Nat.zero_add] using hF)) rfl rfl (by decide) (by decide) w_277 w_1 w_274 w_275 w_276 ry_RW_start (x_recv X hP (by omega) h0 rfl) (ctT_pre (ex := fun _ => True) (fun _ _ _ _ => trivial) trivial hTH (fun _ _ => rfl) hsz9 X hP hD (fr_lt 66 67 0 (by omega)) (fr_inj 66 0)) (ctT_blind (fun _ _ _ _ => trivial)) hl.1 (Nat.le_of_ble_eq_true rfl) dLW_start_4 ⟨Nat.le_refl _, Nat.le_refl _⟩) hsz9 hA hD hP hS (fr_lt 66 67 0 (by omega)) (fr_inj 66 0) (fun o E1 t h => ⟨h.1, h.2⟩) (fun T locs1 x cell XX hc hv hC => fd2 rfl XX X htab ⟨Nat.le_of_ble_eq_true rfl, Nat.le_of_ble_eq_true rfl⟩ ⟨Nat.le_of_ble_eq_true rfl, Nat.le_of_ble_eq_true rfl⟩ (by decide) (by decide) w_272 hex w_273 w_341 hc hv hC) (fun x H locs hD hP hS => ?_)
  · refine lv_astore_n hx hb dLW_start_15 rfl hl (by decide) rfl (fun ls hl => ?_)
    refine lv_iconst (v := 2) hx hb dLW_start_16 (by decide) ?_
    exact q_iretT X hlk hr hP hS dLW_start_17 (fun t => ⟨rfl, rfl⟩)
set_option maxHeartbeats 4000000 in
set_option maxRecDepth 100000 in
theorem c1_LW_step (l : Launch) (hfl : l.flags = pinnedFlags ++ [noTraceFlag]) (D : va_G) (tc : Nat → ClassId) (ad : Nat → Nat) (E : Nat → va_E) (a1 : Int32) (g : Nat → Int64) (sz9 : Nat) (hF : RWf tc ad E) (hO : E 66 = .inl (tc 1, 1, .inr (.inl g))) : CtT l D tc yLW_step 7 67 ad E [.ref (ad 0), .int a1, .ref (ad 66)] sz9 (va_Nc "java/lang/IllegalStateException" "java/lang/IndexOutOfBoundsException") (fun o E2 t9 => o = .returned (some (.int (if wi a1 5 = true then 2 else 1))) ∧ E2 = E) := by
  refine MetX.ofWW (cc := cLW_step) (maxL := 4) (ret := some .int) (by decide) w_359 ?_
  intro p e s m args below meth c s₁ B hml htab hP
  obtain ⟨hsz9, ⟨rfl, hP, hK, hD⟩, hTH, hex⟩ := hP
  rw [lg_entry_eq]
  have hts := atoms_spec (ws := WS) B.pre
  have X : Cx p s m _ c cLW_step 4 R_LW D tc := ⟨B.exec, B.bytes, hml, findClass_of_methodNamed B.named, hts, hK⟩
  have hlk := B.notSynchronized
  have hr := B.returns
  have hx := X.1
  have hb := X.2.1
  have hD : va_D (fun q => Aw 67 ad q ∨ sz9 ≤ q) (wW 67 ad E) := hD.weaken (fun _ _ _ h => Or.inl h)
  have hA : ∀ q, s.heap.size ≤ q → (Aw 67 ad q ∨ sz9 ≤ q) := fun q h => Or.inr (by omega)
  have hS : va_S (fun q => Aw 67 ad q ∨ sz9 ≤ q) s.heap s.heap [] := va_S.rf
  have hl := lv_entry [Value.ref (ad 0), .int a1, .ref (ad 66)] (n := 4) (Nat.le_of_ble_eq_true rfl)
  generalize (lg_sl [Value.ref (ad 0), .int a1, .ref (ad 66)] ++ List.replicate (4 - (lg_sl [Value.ref (ad 0), .int a1, .ref (ad 66)]).length) Slot.unset).toArray = ls at hl ⊢
  have hl : lv_has ls 4 [(0, .ref (ad 0)), (1, .int a1), (2, .ref (ad 66))] := hl
  have h0 := hF.1.1
  refine lv_aload_n hx hb dLW_step_0 rfl (lv_at hl 2 rfl) ?_
  refine lv_iconst (v := 0) hx hb dLW_step_1 (by decide) ?_
  refine lv_aload_n hx hb dLW_step_2 rfl (lv_at hl 0 rfl) ?_
  refine lv_iload_n hx hb dLW_step_3 rfl (lv_at hl 1 rfl) ?_
  by_cases hw : wi a1 5 = true
  · refine x_catch (f := fun k => 0 + k) (C := "java/lang/IllegalStateException") (hpc := 15) (x_runV (C := R_RW) (b := ad 0) (As := [.int a1]) (rest := [.int 0, .ref (ad 66)]) X (c1_RW_step l hfl D tc (fun k => ad (0 + k)) (fun k => E (0 + k)) a1 sz9 (by simpa only [Nat.zero_add] using hF)) rfl rfl (by decide) (by decide) w_365 w_1 w_362 w_363 w_364 ry_RW_step (x_recv X hP (by omega) h0 rfl) (ctT_pre (ex := fun _ => True) (fun _ _ _ _ => trivial) trivial hTH (fun _ _ => rfl) hsz9 X hP hD (fr_lt 66 67 0 (by omega)) (fr_inj 66 0)) (ctT_blind (fun _ _ _ _ => trivial)) hl.1 (Nat.le_of_ble_eq_true rfl) dLW_step_4 ⟨Nat.le_refl _, Nat.le_refl _⟩) hsz9 hA hD hP hS (fr_lt 66 67 0 (by omega)) (fr_inj 66 0) (fun o E1 t h => ⟨h.1, by rw [if_pos hw] at h; exact h.2⟩) (fun T locs1 x cell XX hc hv hC => fd2 rfl XX X htab ⟨Nat.le_of_ble_eq_true rfl, Nat.le_of_ble_eq_true rfl⟩ ⟨Nat.le_of_ble_eq_true rfl, Nat.le_of_ble_eq_true rfl⟩ (by decide) (by decide) w_360 hex w_272 w_280 hc hv hC) (fun x H locs hD hP hS => ?_)
    refine lv_astore_n hx hb dLW_step_15 rfl hl (by decide) rfl (fun ls hl => ?_)
    refine lv_iconst (v := 2) hx hb dLW_step_16 (by decide) ?_
    exact q_iretT X hlk hr hP hS dLW_step_17 (fun t => ⟨by rw [if_pos hw], rfl⟩)
  · refine x_catch (f := fun k => 0 + k) (C := "java/lang/IndexOutOfBoundsException") (hpc := 12) (x_runV (C := R_RW) (b := ad 0) (As := [.int a1]) (rest := [.int 0, .ref (ad 66)]) X (c1_RW_step l hfl D tc (fun k => ad (0 + k)) (fun k => E (0 + k)) a1 sz9 (by simpa only [Nat.zero_add] using hF)) rfl rfl (by decide) (by decide) w_365 w_1 w_362 w_363 w_364 ry_RW_step (x_recv X hP (by omega) h0 rfl) (ctT_pre (ex := fun _ => True) (fun _ _ _ _ => trivial) trivial hTH (fun _ _ => rfl) hsz9 X hP hD (fr_lt 66 67 0 (by omega)) (fr_inj 66 0)) (ctT_blind (fun _ _ _ _ => trivial)) hl.1 (Nat.le_of_ble_eq_true rfl) dLW_step_4 ⟨Nat.le_refl _, Nat.le_refl _⟩) hsz9 hA hD hP hS (fr_lt 66 67 0 (by omega)) (fr_inj 66 0) (fun o E1 t h => ⟨h.1, by rw [if_neg hw] at h; exact h.2⟩) (fun T locs1 x cell XX hc hv hC => fd1 rfl XX X htab ⟨Nat.le_of_ble_eq_true rfl, Nat.le_of_ble_eq_true rfl⟩ (by decide) w_360 w_368 hc hv hC) (fun x H locs hD hP hS => ?_)
    refine lv_astore_n hx hb dLW_step_12 rfl hl (by decide) rfl (fun ls hl => ?_)
    refine lv_iconst (v := 1) hx hb dLW_step_13 (by decide) ?_
    exact q_iretT X hlk hr hP hS dLW_step_14 (fun t => ⟨by rw [if_neg hw], rfl⟩)
end
section
/-! CONSTRUCTORS: new cells come one behind another: ad 1, ad 2 .. are the heap's next places -/
def rmN (d g ms : Nat) : Room := { frames := d, cells := g, slots := ms, locals := 32 * d }
def CtNP (D : va_G) (tc : Nat → ClassId) (g : Nat) (ad : Nat → Nat) (E : Nat → va_E) (av : List Value) : Array Value → State → Prop := fun v U => CtP D tc 1 ad E av v U ∧ ∀ j, j < g → ad (1 + j) = U.heap.size + j
def CtNQ (D : va_G) (g : Nat) (ad : Nat → Nat) (post : (Nat → va_E) → Prop) : Array Value → State → Outcome → State → Prop := fun _ st o t => (o = .returned none ∧ ∃ E', post E' ∧ va_P D vwCl (wW (1 + g) ad E') t.heap) ∧ va_F (Aw (1 + g) ad) st t
def CtN (l : Launch) (D : va_G) (tc : Nat → ClassId) (y : MethodName) (d g ms : Nat) (ad : Nat → Nat) (E : Nat → va_E) (av : List Value) (post : (Nat → va_E) → Prop) : Prop :=
  MetX l y WS (rmN d g ms) (CtNP D tc g ad E av) (CtNQ D g ad post) g ms (Aw (1 + g) ad)
theorem seqD {g : Nat} {ad : Nat → Nat} {sz : Nat} (h0 : ad 0 < sz) (hs : ∀ j, j < g → ad (1 + j) = sz + j) : ∀ n, n ≤ 1 + g → ∀ E' : Nat → va_E, va_D (Aw (1 + g) ad) (wW n ad E') := by
  have key : ∀ i, i < 1 + g → (i = 0 ∧ ad i < sz) ∨ (0 < i ∧ ad i = sz + (i - 1)) := fun i hi => by
    rcases Nat.eq_zero_or_pos i with h | h
    · subst h; exact Or.inl ⟨rfl, h0⟩
    · refine Or.inr ⟨h, ?_⟩
      have := hs (i - 1) (by omega)
      rwa [show 1 + (i - 1) = i by omega] at this
  intro n hn E'
  refine ⟨fun i j x y hi hj hxy => ?_, fun k q hk => ?_⟩
  · obtain ⟨h1, rfl⟩ := wW_inv hi
    obtain ⟨h2, rfl⟩ := wW_inv hj
    have e : ad i = ad j := hxy
    rcases key i (by omega) with ⟨a1, a2⟩ | ⟨a1, a2⟩ <;> rcases key j (by omega) with ⟨b1, b2⟩ | ⟨b1, b2⟩ <;> omega
  · obtain ⟨h1, rfl⟩ := wW_inv hk
    exact ⟨k, by omega, rfl⟩
theorem CtN.ofW {l : Launch} {D : va_G} {tc : Nat → ClassId} {y : MethodName} {d g ms : Nat} {ad : Nat → Nat} {E : Nat → va_E} {av : List Value} {post : (Nat → va_E) → Prop} {cc : ByteArray} {maxL : Nat} {ret : Option FieldType} {own : String}
    (hy : plainName y.cls = true) (ho : y.cls = own) (hn : y.name = "<init>") (hw : Cond.code y cc maxL ret ∈ WS) (hlen : (lg_sl av).length ≤ maxL)
    (body : ∀ (p : Program) (e : Env) (s : State) (m : MethodId) (args : Array Value) (below : List Frame) (meth : Method) (c : Code) (ls : Array Slot), Cx p s m args c cc maxL own D tc → meth.locks = false → meth.sig.returnType = ret → meth.name = "<init>" → (∀ j, j < g → ad (1 + j) = s.heap.size + j) → (∀ n, n ≤ 1 + g → ∀ E' : Nat → va_E, va_D (Aw (1 + g) ad) (wW n ad E')) → va_P D vwCl (wW 1 ad E) s.heap → va_S (Aw (1 + g) ad) s.heap s.heap [] → lv_has ls maxL (lv_args 0 av) →
      W p l e (rmN d g ms) s m args below meth c s.heap [] 0 0 (XQ below (CtNQ D g ad post) args s g ms (Aw (1 + g) ad)) (F0 m 0 ls [])) : CtN l D tc y d g ms ad E av post := by
  refine MetX.ofW hy hw ?_
  intro p e s m args below meth c s₁ B hml hP
  obtain ⟨⟨rfl, hP, hK, hD⟩, hs⟩ := hP
  rw [lg_entry_eq]
  have h0 : ad 0 < s.heap.size := (hP 0 _ (wW_get (by decide) rfl)).lt
  exact body p e s m _ below meth c _ ⟨B.exec, B.bytes, hml, (by rw [← ho]; exact findClass_of_methodNamed B.named), atoms_spec (ws := WS) B.pre, hK⟩ B.notSynchronized B.returns (by rw [(name_of_methodNamed B.named B.method).1]; exact hn) hs (seqD h0 hs) hP va_S.rf (lv_entry av hlen)
theorem wW_push {n : Nat} {ad : Nat → Nat} {E : Nat → va_E} {e : va_E} : wW (n + 1) ad (va_up E n e) = wW n ad E ++ [(ad n, e)] := by
  simp only [wW, List.range_succ, List.map_append, List.map_cons, List.map_nil, va_up_self]
  congr 1
  apply List.map_congr_left
  intro k hk
  rw [va_up_ne _ _ (Nat.ne_of_lt (List.mem_range.mp hk))]
section CN
variable {p : Program} {l : Launch} {e : Env} {R : Room} {s : State} {m : MethodId} {args : Array Value} {below : List Frame} {meth : Method} {c : Code} {H : Heap} {locs : List Loc} {cells slots : Nat} {Q : State → Prop}
variable {cc : ByteArray} {nL pc n : Nat} {own : String} {D : va_G} {tc : Nat → ClassId} {ad : Nat → Nat} {E : Nat → va_E} {A : Nat → Prop} {ls : Array Slot} {rest st0 As : List Value} {post : (Nat → va_E) → Prop} {g ms : Nat}
theorem W.sized {f : JFrame} (hlow : s.heap.size + cells ≤ H.size) (k : H.size = s.heap.size + cells → W p l e R s m args below meth c H locs cells slots Q f) : W p l e R s m args below meth c H locs cells slots Q f := fun T hT X => k (by have := X.heapSize; rw [hT] at this; omega) T hT X
theorem n_low (hP : va_P D vwCl (wW (1 + cells) ad E) H) (hS : va_S A s.heap H locs) (hs : ∀ j, j < cells → ad (1 + j) = s.heap.size + j) : s.heap.size + cells ≤ H.size := by
  rcases Nat.eq_zero_or_pos cells with h | h
  · rw [h]; exact hS.1
  · have h1 := (hP (1 + (cells - 1)) _ (wW_get (by omega) rfl)).lt
    have h2 : (ad (1 + (cells - 1)), E (1 + (cells - 1))).1 = ad (1 + (cells - 1)) := rfl
    rw [h2, hs (cells - 1) (by omega)] at h1
    omega
theorem n_push {v : va_E} {H1 : Heap} (hP : va_P D vwCl (wW n ad E) H) (hS : va_S A s.heap H locs) (ha : ad n = H.size) (hA : A (ad n)) (hat : va_at D vwCl (ad n, v) H1) (hz : H1.size = H.size + 1) (ho : ∀ q, q < H.size → H1[q]? = H[q]?) : va_P D vwCl (wW (n + 1) ad (va_up E n v)) H1 ∧ va_S A s.heap H1 locs := by
  refine ⟨?_, Nat.le_trans hS.1 (by omega), fun x h1 h2 => (ho x (Nat.lt_of_lt_of_le h1 hS.1)).trans (hS.2.1 x h1 h2), hS.2.2⟩
  rw [wW_push]
  refine va_P.app (hP.kept (fun k x hx => ho x.1 ((hP k x hx).lt))) (fun k x hx => ?_)
  have h0 : k < 1 := (List.getElem?_eq_some_iff.mp hx).1
  rw [show k = 0 by omega] at hx
  cases hx
  exact hat
theorem q_newI {v : Int32} (N : Nat) (X : Cx p s m args c cc nL own D tc) (hw : Cond.arrayClass .int ∈ WS) (hP : va_P D vwCl (wW (1 + cells) ad E) H) (hS : va_S A s.heap H locs) (hs : ∀ j, j < cells + 1 → ad (1 + j) = s.heap.size + j) (hA : A (ad (1 + cells))) (hv : v = nI N) (hN : N ≤ 1000) (hc : cells + 1 ≤ R.cells) (hsl : slots + N ≤ R.slots) (hdg : decode cc pc = .ok (.newarray .int, 2))
    (kk : ∀ H1 : Heap, va_P D vwCl (wW (1 + cells + 1) ad (va_up E (1 + cells) (.inl (tc 0, N, .inl (fun _ => 0))))) H1 → va_S A s.heap H1 locs → W p l e R s m args below meth c H1 locs (cells + 1) (slots + N) Q (F0 m (pc + 2) ls (.ref (ad (1 + cells)) :: rest))) : W p l e R s m args below meth c H locs cells slots Q (F0 m pc ls (.int v :: rest)) := by
  refine W.sized (n_low hP hS (fun j hj => hs j (by omega))) (fun hz => ?_)
  have ha : ad (1 + cells) = H.size := by rw [hs cells (by omega)]; omega
  subst hv
  refine va_newaK (atype := .int) X.1 X.2.1 (show (Cond.arrayClass (newarray.typeOf .int)).before args s = true from X.2.2.2.2.1 _ hw) rfl hdg rfl (nI_pos (by omega)) (nI_clamp (by omega)) (by show N * 4 ≤ _; omega) hc hsl ha.symm (fun H1 cA h1 h2 h3 h4 h5 => ?_)
  have hcA : cA = tc 0 := Option.some.inj (h5.symm.trans (X.2.2.2.2.2.2 0 _ rfl).2)
  subst hcA
  obtain ⟨q1, q2⟩ := n_push (v := .inl (tc 0, N, .inl (fun _ => 0))) hP hS ha hA (show H1[ad (1 + cells)]? = some (vp_cell _ _) from h1) (by omega) (fun q hq => h3 q (by omega))
  exact kk H1 q1 q2
theorem q_newJ {v : Int32} (N : Nat) (X : Cx p s m args c cc nL own D tc) (hw : Cond.arrayClass .long ∈ WS) (hP : va_P D vwCl (wW (1 + cells) ad E) H) (hS : va_S A s.heap H locs) (hs : ∀ j, j < cells + 1 → ad (1 + j) = s.heap.size + j) (hA : A (ad (1 + cells))) (hv : v = nI N) (hN : N ≤ 1000) (hc : cells + 1 ≤ R.cells) (hsl : slots + N ≤ R.slots) (hdg : decode cc pc = .ok (.newarray .long, 2))
    (kk : ∀ H1 : Heap, va_P D vwCl (wW (1 + cells + 1) ad (va_up E (1 + cells) (.inl (tc 1, N, .inr (.inl (fun _ => 0)))))) H1 → va_S A s.heap H1 locs → W p l e R s m args below meth c H1 locs (cells + 1) (slots + N) Q (F0 m (pc + 2) ls (.ref (ad (1 + cells)) :: rest))) : W p l e R s m args below meth c H locs cells slots Q (F0 m pc ls (.int v :: rest)) := by
  refine W.sized (n_low hP hS (fun j hj => hs j (by omega))) (fun hz => ?_)
  have ha : ad (1 + cells) = H.size := by rw [hs cells (by omega)]; omega
  subst hv
  refine va_newaK (atype := .long) X.1 X.2.1 (show (Cond.arrayClass (newarray.typeOf .long)).before args s = true from X.2.2.2.2.1 _ hw) rfl hdg rfl (nI_pos (by omega)) (nI_clamp (by omega)) (by show N * 8 ≤ _; omega) hc hsl ha.symm (fun H1 cA h1 h2 h3 h4 h5 => ?_)
  have hcA : cA = tc 1 := Option.some.inj (h5.symm.trans (X.2.2.2.2.2.2 1 _ rfl).2)
  subst hcA
  obtain ⟨q1, q2⟩ := n_push (v := .inl (tc 1, N, .inr (.inl (fun _ => 0)))) hP hS ha hA (show H1[ad (1 + cells)]? = some (vp_cell _ _) from h1) (by omega) (fun q hq => h3 q (by omega))
  exact kk H1 q1 q2
theorem q_newZ {v : Int32} (N : Nat) (X : Cx p s m args c cc nL own D tc) (hw : Cond.arrayClass .boolean ∈ WS) (hP : va_P D vwCl (wW (1 + cells) ad E) H) (hS : va_S A s.heap H locs) (hs : ∀ j, j < cells + 1 → ad (1 + j) = s.heap.size + j) (hA : A (ad (1 + cells))) (hv : v = nI N) (hN : N ≤ 1000) (hc : cells + 1 ≤ R.cells) (hsl : slots + N ≤ R.slots) (hdg : decode cc pc = .ok (.newarray .boolean, 2))
    (kk : ∀ H1 : Heap, va_P D vwCl (wW (1 + cells + 1) ad (va_up E (1 + cells) (.inl (tc 2, N, .inl (fun _ => 0))))) H1 → va_S A s.heap H1 locs → W p l e R s m args below meth c H1 locs (cells + 1) (slots + N) Q (F0 m (pc + 2) ls (.ref (ad (1 + cells)) :: rest))) : W p l e R s m args below meth c H locs cells slots Q (F0 m pc ls (.int v :: rest)) := by
  refine W.sized (n_low hP hS (fun j hj => hs j (by omega))) (fun hz => ?_)
  have ha : ad (1 + cells) = H.size := by rw [hs cells (by omega)]; omega
  subst hv
  refine va_newaK (atype := .boolean) X.1 X.2.1 (show (Cond.arrayClass (newarray.typeOf .boolean)).before args s = true from X.2.2.2.2.1 _ hw) rfl hdg rfl (nI_pos (by omega)) (nI_clamp (by omega)) (by show N * 1 ≤ _; omega) hc hsl ha.symm (fun H1 cA h1 h2 h3 h4 h5 => ?_)
  have hcA : cA = tc 2 := Option.some.inj (h5.symm.trans (X.2.2.2.2.2.2 2 _ rfl).2)
  subst hcA
  obtain ⟨q1, q2⟩ := n_push (v := .inl (tc 2, N, .inl (fun _ => 0))) hP hS ha hA (show H1[ad (1 + cells)]? = some (vp_cell _ _) from h1) (by omega) (fun q hq => h3 q (by omega))
  exact kk H1 q1 q2
theorem q_newQ {v : Int32} {C : String} {ix : Nat} (N t0 : Nat) {cA0 : ClassId} (X : Cx p s m args c cc nL own D tc) (hw : Cond.classLink own ix C ∈ WS) (hov : Cond.arrayOver (.object C) ∈ WS) (ht : (TY tc)[t0]? = some (cA0, .object C)) (hP : va_P D vwCl (wW (1 + cells) ad E) H) (hS : va_S A s.heap H locs) (hs : ∀ j, j < cells + 1 → ad (1 + j) = s.heap.size + j) (hA : A (ad (1 + cells))) (hv : v = nI N) (hN : N ≤ 1000) (hc : cells + 1 ≤ R.cells) (hsl : slots + N ≤ R.slots) (hdg : decode cc pc = .ok (.anewarray ix, 3))
    (kk : ∀ H1 : Heap, va_P D vwCl (wW (1 + cells + 1) ad (va_up E (1 + cells) (.inl (cA0, N, .inr (.inr (.inr (.inr (fun _ => none)))))))) H1 → va_S A s.heap H1 locs → W p l e R s m args below meth c H1 locs (cells + 1) (slots + N) Q (F0 m (pc + 3) ls (.ref (ad (1 + cells)) :: rest))) : W p l e R s m args below meth c H locs cells slots Q (F0 m pc ls (.int v :: rest)) := by
  refine W.sized (n_low hP hS (fun j hj => hs j (by omega))) (fun hz => ?_)
  have ha : ad (1 + cells) = H.size := by rw [hs cells (by omega)]; omega
  subst hv
  have hcl : (nI N).toNatClampNeg = N := nI_clamp (by omega)
  refine W.anew X.1 X.2.1 X.2.2.2.1 (X.2.2.2.2.1 _ hw) (X.2.2.2.2.1 _ hov) rfl hdg rfl (nI_pos (by omega)) (by rw [hcl]; omega) hc (by rw [hcl]; exact hsl) (fun cA kA comp f1 f2 f3 f4 => ?_)
  rw [hcl]
  obtain ⟨-, kB, cB, r1, r2, r3, r4⟩ := X.2.2.2.2.2.2 t0 _ ht
  have hcA : cA = cA0 := Option.some.inj (f1.symm.trans r4)
  subst hcA
  generalize hH1 : H.push ({ cls := cA, slots := Array.replicate N .null, vm := .none } : Cell) = H1
  have z1 : H1.size = H.size + 1 := by rw [← hH1, Array.size_push]
  have e1 : H1[H.size]? = some (arrV cA N (fun _ => .null)) := by rw [← hH1, Array.getElem?_push_size, ← arrV_new]
  have o1 : ∀ q : Nat, q < H.size → H1[q]? = H[q]? := fun q hq => by rw [← hH1, Array.getElem?_push, if_neg (Nat.ne_of_lt hq)]
  obtain ⟨q1, q2⟩ := n_push (v := .inl (cA, N, .inr (.inr (.inr (.inr (fun _ => none)))))) hP hS ha hA (show H1[ad (1 + cells)]? = some (vp_cell _ _) by rw [ha, vp_cell_q]; exact e1) z1 o1
  have k1 := kk H1 q1 q2
  rw [ha] at k1
  exact k1
theorem q_newO {C : String} {T : u_T} {N ci ix : Nat} {fs : List Value} (ty0 : Nat → FieldType) (X : Cx p s m args c cc nL own D tc) (hin : ∀ w ∈ u_ws C T N, w ∈ WS) (hty : ∀ k, k < N → parseFieldDescriptor (T k).2.2.1 = some (ty0 k)) (hcl : Cond.classLink own ix C ∈ WS) (hinst : Cond.instantiable C N ∈ WS) (hini : Cond.initialized C ∈ WS) (hci : vwCl[ci]? = some (C, T, N)) (hfs : ∀ j, j < N → defaultValue (ty0 j) = vp_V fs j)
    (hP : va_P D vwCl (wW (1 + cells) ad E) H) (hS : va_S A s.heap H locs) (hs : ∀ j, j < cells + 1 → ad (1 + j) = s.heap.size + j) (hA : A (ad (1 + cells))) (hc : cells + 1 ≤ R.cells) (hsl : slots + N ≤ R.slots) (hdg : decode cc pc = .ok (.new ix, 3))
    (kk : ∀ H1 : Heap, va_P D vwCl (wW (1 + cells + 1) ad (va_up E (1 + cells) (.inr (ci, fs)))) H1 → va_S A s.heap H1 locs → W p l e R s m args below meth c H1 locs (cells + 1) (slots + N) Q (F0 m (pc + 3) ls (.ref (ad (1 + cells)) :: rest))) : W p l e R s m args below meth c H locs cells slots Q (F0 m pc ls rest) := by
  refine W.sized (n_low hP hS (fun j hj => hs j (by omega))) (fun hz => ?_)
  have ha : ad (1 + cells) = H.size := by rw [hs cells (by omega)]; omega
  have hts := X.2.2.2.2.1
  have hKn := X.2.2.2.2.2.1 ci _ hci
  refine W.newcK X.1 X.2.1 X.2.2.2.1 (hts _ hcl) (hts _ hinst) (hts _ hini) rfl hdg hc hsl hKn.2.1 rfl fun H1 kC hkC e1 z1 o1 => ?_
  obtain ⟨q1, q2⟩ := n_push (v := .inr (ci, fs)) hP hS ha hA (by rw [ha]; exact ⟨_, hci, (u_born ty0 hts hin hKn hkC e1 hty).to hfs⟩) (by omega) o1
  have k1 := kk H1 q1 q2
  rw [ha] at k1
  exact k1
theorem q_aast {k N t0 qk ci : Nat} {r : vw_C} {f : Nat → Option Nat} {vs : List Value} {i : Int32} {cA : ClassId} (j : Nat) (X : Cx p s m args c cc nL own D tc) (hD : va_D A (wW n ad E)) (hP : va_P D vwCl (wW n ad E) H) (hS : va_S A s.heap H locs) (hk : k < n) (hE : E k = .inl (cA, N, .inr (.inr (.inr (.inr f))))) (ht : (TY tc)[t0]? = some (cA, .object r.1)) (hqk : qk < n) (hV : E qk = .inr (ci, vs)) (hc : vwCl[ci]? = some r) (hi : i = nI j) (hj : j < N) (hN : N < 2 ^ 31) (hdg : decode cc pc = .ok (.aastore, 1))
    (kk : ∀ (H1 : Heap) (locs1 : List Loc), va_D A (wW n ad (va_up E k (.inl (cA, N, .inr (.inr (.inr (.inr (va_up f j (some (ad qk)))))))))) → va_P D vwCl (wW n ad (va_up E k (.inl (cA, N, .inr (.inr (.inr (.inr (va_up f j (some (ad qk)))))))))) H1 → va_S A s.heap H1 locs1 → W p l e R s m args below meth c H1 locs1 cells slots Q (F0 m (pc + 1) ls rest)) : W p l e R s m args below meth c H locs cells slots Q (F0 m pc ls (.ref (ad qk) :: .int i :: .ref (ad k) :: rest)) := by
  subst hi
  refine va_astq (D := D) X.1 X.2.1 X.2.2.2.2.2 hP hD hS k t0 qk ci (wW_get hk hE) ht (wW_get hqk hV) hc (vp_in_nI hj hN) hdg (fun H1 locs1 h1 h2 h3 => ?_)
  rw [nI_clamp (by omega), wW_set] at h1 h2
  exact kk H1 locs1 h2 h1 h3
theorem q_vretN (X : Cx p s m args c cc nL own D tc) (hlk : meth.locks = false) (hr : meth.sig.returnType = none) (hP : va_P D vwCl (wW (1 + g) ad E) H) (hS : va_S (Aw (1 + g) ad) s.heap H locs) (hdg : decode cc pc = .ok (.return_, 1)) (hp : post E) :
    W p l e R s m args below meth c H locs g ms (XQ below (CtNQ D g ad post) args s g ms (Aw (1 + g) ad)) (F0 m pc ls []) :=
  W.mono (fun _ h => XQ.ofM h) (W.vret X.1 X.2.1 hr (fun t ht _ => ⟨⟨rfl, E, hp, by rw [ht]; exact hP⟩, hS.F ht⟩) hS.2.2 hdg hlk)
theorem ctN_blind {ad : Nat → Nat} {E : Nat → va_E} {av : List Value} : FrameBlind (CtNP D tc g ad E av) := fun a U g mk h => ⟨ct_blind a U g mk h.1, h.2⟩
/-- behind a constructor's call: its object is the last cell, what it made lies behind it -/
theorem x_n {a : Array Value} {b : Nat} (hr : H.size = s.heap.size + cells → XRun p l e R s m args below meth c H locs cells slots g ms pc ls st0 rest (CtNQ D g (fun k => ad (b + k)) post a) (Aw (1 + g) (fun k => ad (b + k)))) (hb : b = cells) (hP : va_P D vwCl (wW (1 + cells) ad E) H) (hS : va_S A s.heap H locs) (hs : ∀ j, j < cells + g → ad (1 + j) = s.heap.size + j) (hDD : ∀ n, n ≤ 1 + cells + g → ∀ E' : Nat → va_E, va_D A (wW n ad E'))
    (kk : ∀ (E1 : Nat → va_E) (H1 : Heap) (locs1 : List Loc), post E1 → va_P D vwCl (wW (1 + cells + g) ad (wU (1 + g) (fun k => b + k) E E1)) H1 → va_S A s.heap H1 locs1 → W p l e R s m args below meth c H1 locs1 (cells + g) (slots + ms) Q (F0 m (pc + 3) ls rest)) :
    W p l e R s m args below meth c H locs cells slots Q (F0 m pc ls st0) := by
  refine W.sized (n_low hP hS (fun j hj => hs j (by omega))) (fun hz => ?_)
  intro T hT X
  obtain ⟨o, st₀, t, T', L, h0, X', hL, e1, e2, ⟨⟨rfl, E1, hp, hP1⟩, hzz, hk⟩, hret, hthr⟩ := hr hz T hT X
  rw [h0] at hzz hk
  have hDb := hDD (1 + cells + g) (Nat.le_refl _) E
  have hsub : ∀ q, Aw (1 + g) (fun k => ad (b + k)) q → A q := fun q ⟨k, h1, h2⟩ => by rw [h2]; exact wW_in hDb (by omega)
  have hPn : va_P D vwCl (wW (1 + cells + g) ad (wU (1 + g) (fun k => b + k) E E1)) t.heap := by
    intro k q hq
    obtain ⟨h1, rfl⟩ := wW_inv hq
    by_cases hc : b ≤ k
    · have e : wU (1 + g) (fun k => b + k) E E1 k = E1 (k - b) := by
        have := wU_own (m := 1 + g) (b := b) (F := E) (E1 := E1) (k - b) (by omega)
        rwa [show b + (k - b) = k by omega] at this
      rw [e]
      have := hP1 (k - b) _ (wW_get (by omega) rfl)
      have e2 : ad (b + (k - b)) = ad k := by rw [show b + (k - b) = k by omega]
      rw [e2] at this
      exact this
    · rw [wU_far (by omega)]
      have h2 := hP k _ (wW_get (by omega) rfl)
      refine h2.kept (hk (ad k) h2.lt ?_)
      rintro ⟨j, h3, h4⟩
      have := wW_inj hDb h1 (show b + j < 1 + cells + g by omega) h4
      omega
  have hSn : va_S A s.heap T'.heap (locs ++ L) := ⟨Nat.le_trans hS.1 (by rw [e1]; exact hzz), fun q h1 h2 => by rw [e1, hk q (Nat.lt_of_lt_of_le h1 hS.1) (fun z => h2 (hsub q z))]; exact hS.2.1 q h1 h2, fun q hq => by
    rcases List.mem_append.mp hq with h | h
    · exact hS.2.2 q h
    · exact hsub _ (hL q h)⟩
  obtain ⟨t2, a1, b1⟩ := kk E1 T'.heap (locs ++ L) hp (by rw [e1]; exact hPn) hSn T' rfl X'
  exact ⟨t2, hret _ rfl t2 a1, b1⟩
theorem ctN_pre {b : Nat} {av : List Value} (X : Cx p s m args c cc nL own D tc) (hb : b = cells) (hP : va_P D vwCl (wW (1 + cells) ad E) H) (hs : ∀ j, j < cells + g → ad (1 + j) = s.heap.size + j) (hz : H.size = s.heap.size + cells) :
    ∀ U : State, U.heap = H → s.WarmedH U.vm → CtNP D tc g (fun k => ad (b + k)) (fun k => E (b + k)) av av.toArray U := fun U hU hW =>
  ⟨⟨rfl, by rw [hU]; exact wW_cut (f := fun k => b + k) hP (fun k hk => by show b + k < _; omega), va_K.moved hW.alike X.2.2.2.2.2, fun i j x y hi hj _ => by
      obtain ⟨h1, -⟩ := wW_inv hi
      obtain ⟨h2, -⟩ := wW_inv hj
      omega, fun k q hk => by
      obtain ⟨h1, rfl⟩ := wW_inv hk
      exact ⟨k, h1, rfl⟩⟩, fun j hj => by
    show ad (b + (1 + j)) = U.heap.size + j
    rw [hU, hz, show b + (1 + j) = 1 + (cells + j) by omega, hs (cells + j) (by omega)]
    omega⟩
end CN
end
section
theorem dCK_init_0 : decode cCK_init 0 = .ok (.aload_n 0, 1) := by decide +kernel
theorem dCK_init_1 : decode cCK_init 1 = .ok (.invokespecial 3, 3) := by decide +kernel
theorem dCK_init_4 : decode cCK_init 4 = .ok (.aload_n 0, 1) := by decide +kernel
theorem dCK_init_5 : decode cCK_init 5 = .ok (.iconst 5, 1) := by decide +kernel
theorem dCK_init_6 : decode cCK_init 6 = .ok (.newarray .int, 2) := by decide +kernel
theorem dCK_init_8 : decode cCK_init 8 = .ok (.putfield 9, 3) := by decide +kernel
theorem dCK_init_11 : decode cCK_init 11 = .ok (.return_, 1) := by decide +kernel
theorem dPG_init_0 : decode cPG_init 0 = .ok (.aload_n 0, 1) := by decide +kernel
theorem dPG_init_1 : decode cPG_init 1 = .ok (.invokespecial 3, 3) := by decide +kernel
theorem dPG_init_4 : decode cPG_init 4 = .ok (.aload_n 0, 1) := by decide +kernel
theorem dPG_init_5 : decode cPG_init 5 = .ok (.bipush 12, 2) := by decide +kernel
theorem dPG_init_7 : decode cPG_init 7 = .ok (.newarray .int, 2) := by decide +kernel
theorem dPG_init_9 : decode cPG_init 9 = .ok (.putfield 9, 3) := by decide +kernel
theorem dPG_init_12 : decode cPG_init 12 = .ok (.aload_n 0, 1) := by decide +kernel
theorem dPG_init_13 : decode cPG_init 13 = .ok (.bipush 12, 2) := by decide +kernel
theorem dPG_init_15 : decode cPG_init 15 = .ok (.newarray .int, 2) := by decide +kernel
theorem dPG_init_17 : decode cPG_init 17 = .ok (.putfield 15, 3) := by decide +kernel
theorem dPG_init_20 : decode cPG_init 20 = .ok (.aload_n 0, 1) := by decide +kernel
theorem dPG_init_21 : decode cPG_init 21 = .ok (.bipush 12, 2) := by decide +kernel
theorem dPG_init_23 : decode cPG_init 23 = .ok (.newarray .int, 2) := by decide +kernel
theorem dPG_init_25 : decode cPG_init 25 = .ok (.putfield 18, 3) := by decide +kernel
theorem dPG_init_28 : decode cPG_init 28 = .ok (.aload_n 0, 1) := by decide +kernel
theorem dPG_init_29 : decode cPG_init 29 = .ok (.iconst 0, 1) := by decide +kernel
theorem dPG_init_30 : decode cPG_init 30 = .ok (.putfield 21, 3) := by decide +kernel
theorem dPG_init_33 : decode cPG_init 33 = .ok (.return_, 1) := by decide +kernel
theorem dWK_init_0 : decode cWK_init 0 = .ok (.aload_n 0, 1) := by decide +kernel
theorem dWK_init_1 : decode cWK_init 1 = .ok (.invokespecial 3, 3) := by decide +kernel
theorem dWK_init_4 : decode cWK_init 4 = .ok (.aload_n 0, 1) := by decide +kernel
theorem dWK_init_5 : decode cWK_init 5 = .ok (.new 9, 3) := by decide +kernel
theorem dWK_init_8 : decode cWK_init 8 = .ok (.dup, 1) := by decide +kernel
theorem dWK_init_9 : decode cWK_init 9 = .ok (.invokespecial 11, 3) := by decide +kernel
theorem dWK_init_12 : decode cWK_init 12 = .ok (.putfield 12, 3) := by decide +kernel
theorem dWK_init_15 : decode cWK_init 15 = .ok (.aload_n 0, 1) := by decide +kernel
theorem dWK_init_16 : decode cWK_init 16 = .ok (.iconst 0, 1) := by decide +kernel
theorem dWK_init_17 : decode cWK_init 17 = .ok (.putfield 18, 3) := by decide +kernel
theorem dWK_init_20 : decode cWK_init 20 = .ok (.aload_n 0, 1) := by decide +kernel
theorem dWK_init_21 : decode cWK_init 21 = .ok (.iconst 0, 1) := by decide +kernel
theorem dWK_init_22 : decode cWK_init 22 = .ok (.putfield 22, 3) := by decide +kernel
theorem dWK_init_25 : decode cWK_init 25 = .ok (.aload_n 0, 1) := by decide +kernel
theorem dWK_init_26 : decode cWK_init 26 = .ok (.lconst 0, 1) := by decide +kernel
theorem dWK_init_27 : decode cWK_init 27 = .ok (.putfield 25, 3) := by decide +kernel
theorem dWK_init_30 : decode cWK_init 30 = .ok (.return_, 1) := by decide +kernel
theorem dLK_init_0 : decode cLK_init 0 = .ok (.aload_n 0, 1) := by decide +kernel
theorem dLK_init_1 : decode cLK_init 1 = .ok (.invokespecial 3, 3) := by decide +kernel
theorem dLK_init_4 : decode cLK_init 4 = .ok (.aload_n 0, 1) := by decide +kernel
theorem dLK_init_5 : decode cLK_init 5 = .ok (.new 9, 3) := by decide +kernel
theorem dLK_init_8 : decode cLK_init 8 = .ok (.dup, 1) := by decide +kernel
theorem dLK_init_9 : decode cLK_init 9 = .ok (.invokespecial 11, 3) := by decide +kernel
theorem dLK_init_12 : decode cLK_init 12 = .ok (.putfield 12, 3) := by decide +kernel
theorem dLK_init_15 : decode cLK_init 15 = .ok (.aload_n 0, 1) := by decide +kernel
theorem dLK_init_16 : decode cLK_init 16 = .ok (.iconst (-1), 1) := by decide +kernel
theorem dLK_init_17 : decode cLK_init 17 = .ok (.putfield 18, 3) := by decide +kernel
theorem dLK_init_20 : decode cLK_init 20 = .ok (.aload_n 0, 1) := by decide +kernel
theorem dLK_init_21 : decode cLK_init 21 = .ok (.iconst 0, 1) := by decide +kernel
theorem dLK_init_22 : decode cLK_init 22 = .ok (.putfield 22, 3) := by decide +kernel
theorem dLK_init_25 : decode cLK_init 25 = .ok (.return_, 1) := by decide +kernel
theorem dTR_init_0 : decode cTR_init 0 = .ok (.aload_n 0, 1) := by decide +kernel
theorem dTR_init_1 : decode cTR_init 1 = .ok (.invokespecial 3, 3) := by decide +kernel
theorem dTR_init_4 : decode cTR_init 4 = .ok (.aload_n 0, 1) := by decide +kernel
theorem dTR_init_5 : decode cTR_init 5 = .ok (.sipush 200, 3) := by decide +kernel
theorem dTR_init_8 : decode cTR_init 8 = .ok (.newarray .int, 2) := by decide +kernel
theorem dTR_init_10 : decode cTR_init 10 = .ok (.putfield 9, 3) := by decide +kernel
theorem dTR_init_13 : decode cTR_init 13 = .ok (.aload_n 0, 1) := by decide +kernel
theorem dTR_init_14 : decode cTR_init 14 = .ok (.sipush 1000, 3) := by decide +kernel
theorem dTR_init_17 : decode cTR_init 17 = .ok (.newarray .int, 2) := by decide +kernel
theorem dTR_init_19 : decode cTR_init 19 = .ok (.putfield 15, 3) := by decide +kernel
theorem dTR_init_22 : decode cTR_init 22 = .ok (.aload_n 0, 1) := by decide +kernel
theorem dTR_init_23 : decode cTR_init 23 = .ok (.iconst 0, 1) := by decide +kernel
theorem dTR_init_24 : decode cTR_init 24 = .ok (.putfield 18, 3) := by decide +kernel
theorem dTR_init_27 : decode cTR_init 27 = .ok (.return_, 1) := by decide +kernel
set_option maxHeartbeats 4000000 in
set_option maxRecDepth 100000 in
theorem c_CK_init (l : Launch) (D : va_G) (tc : Nat → ClassId) (ad : Nat → Nat) (E : Nat → va_E)  (h0 : E 0 = .inr (0, [.null])) : CtN l D tc yCK_init 1 1 5 ad E [.ref (ad 0)] (fun E2 => isCK tc ad E2 0) := by
  refine CtN.ofW (cc := cCK_init) (maxL := 1) (ret := none) (own := R_CK) (by decide) rfl rfl w_59 (Nat.le_of_ble_eq_true rfl) ?_
  intro p e s m args below meth c ls X hlk hr hin hsq hDD hP hS hl
  have hx := X.1
  have hb := X.2.1
  have hD := hDD 1 (by decide) E
  have hl : lv_has ls 1 [(0, .ref (ad 0))] := hl
  refine lv_aload_n hx hb dCK_init_0 rfl (lv_at hl 0 rfl) ?_
  refine W.objInit hx hb X.2.2.2.1 (X.2.2.2.2.1 _ w_60) (X.2.2.2.2.1 _ w_26) (X.2.2.2.2.1 _ w_27) rfl (by rw [X.2.2.1]; exact hl.1) rfl dCK_init_1 (Nat.le_of_ble_eq_true rfl) (Nat.le_of_ble_eq_true rfl) ?_
  refine W.eq (g2 := F0 m 4 ls []) rfl ?_
  refine lv_aload_n hx hb dCK_init_4 rfl (lv_at hl 0 rfl) ?_
  refine lv_iconst (v := 5) hx hb dCK_init_5 (by decide) ?_
  refine q_newI 5 X w_49 hP hS (fun j hj => hsq j (by omega)) ⟨1, by decide, rfl⟩ rfl (by decide) (by decide) (by decide) dCK_init_6 (fun H hP hS => ?_)
  have hP : va_P D vwCl (wW 2 ad (va_up E 1 (.inl (tc 0, 5, .inl (fun _ => 0))))) H := hP
  generalize g2 : va_up E 1 (.inl (tc 0, 5, .inl (fun _ => 0))) = E1 at hP
  have f3 : E1 0 = .inr (0, [.null]) := by rw [← g2, va_up_ne _ _ (by omega)]; exact h0
  have f4 : E1 1 = .inl (tc 0, 5, .inl (fun _ => 0)) := by rw [← g2]; exact va_up_self _ _ _
  have hD := hDD 2 (by decide) E1
  refine p_CK_9 X hin hD hP hS (by omega) (f3) rfl rfl (Nat.le_of_ble_eq_true rfl) dCK_init_8 (fun H locs hD hP hS => ?_)
  have hP : va_P D vwCl (wW 2 ad (va_up E1 0 (.inr (0, [.ref (ad 1)])))) H := hP
  have hD : va_D (Aw (1 + 1) ad) (wW 2 ad (va_up E1 0 (.inr (0, [.ref (ad 1)])))) := hD
  generalize g6 : va_up E1 0 (.inr (0, [.ref (ad 1)])) = E5 at hD hP
  have f7 : E5 0 = .inr (0, [.ref (ad 1)]) := by rw [← g6]; exact va_up_self _ _ _
  have f8 : E5 1 = .inl (tc 0, 5, .inl (fun _ => 0)) := by rw [← g6, va_up_ne _ _ (by omega)]; exact f4
  exact q_vretN X hlk hr hP hS dCK_init_11 (⟨f7, _, f8⟩)
set_option maxHeartbeats 4000000 in
set_option maxRecDepth 100000 in
theorem c_PG_init (l : Launch) (D : va_G) (tc : Nat → ClassId) (ad : Nat → Nat) (E : Nat → va_E)  (h0 : E 0 = .inr (2, [.null, .null, .null, .int 0])) : CtN l D tc yPG_init 1 3 36 ad E [.ref (ad 0)] (fun E2 => ∃ fo fa fb : Nat → Int32, isPG tc ad E2 0 0 fo fa fb) := by
  refine CtN.ofW (cc := cPG_init) (maxL := 1) (ret := none) (own := R_PG) (by decide) rfl rfl w_35 (Nat.le_of_ble_eq_true rfl) ?_
  intro p e s m args below meth c ls X hlk hr hin hsq hDD hP hS hl
  have hx := X.1
  have hb := X.2.1
  have hD := hDD 1 (by decide) E
  have hl : lv_has ls 1 [(0, .ref (ad 0))] := hl
  refine lv_aload_n hx hb dPG_init_0 rfl (lv_at hl 0 rfl) ?_
  refine W.objInit hx hb X.2.2.2.1 (X.2.2.2.2.1 _ w_36) (X.2.2.2.2.1 _ w_26) (X.2.2.2.2.1 _ w_27) rfl (by rw [X.2.2.1]; exact hl.1) rfl dPG_init_1 (Nat.le_of_ble_eq_true rfl) (Nat.le_of_ble_eq_true rfl) ?_
  refine W.eq (g2 := F0 m 4 ls []) rfl ?_
  refine lv_aload_n hx hb dPG_init_4 rfl (lv_at hl 0 rfl) ?_
  refine lv_bipush (v := 12) hx hb dPG_init_5 (by decide) ?_
  refine q_newI 12 X w_49 hP hS (fun j hj => hsq j (by omega)) ⟨1, by decide, rfl⟩ rfl (by decide) (by decide) (by decide) dPG_init_7 (fun H hP hS => ?_)
  have hP : va_P D vwCl (wW 2 ad (va_up E 1 (.inl (tc 0, 12, .inl (fun _ => 0))))) H := hP
  generalize g2 : va_up E 1 (.inl (tc 0, 12, .inl (fun _ => 0))) = E1 at hP
  have f3 : E1 0 = .inr (2, [.null, .null, .null, .int 0]) := by rw [← g2, va_up_ne _ _ (by omega)]; exact h0
  have f4 : E1 1 = .inl (tc 0, 12, .inl (fun _ => 0)) := by rw [← g2]; exact va_up_self _ _ _
  have hD := hDD 2 (by decide) E1
  refine p_PG_9 X hin hD hP hS (by omega) (f3) rfl rfl (Nat.le_of_ble_eq_true rfl) dPG_init_9 (fun H locs hD hP hS => ?_)
  have hP : va_P D vwCl (wW 2 ad (va_up E1 0 (.inr (2, [.ref (ad 1), .null, .null, .int 0])))) H := hP
  have hD : va_D (Aw (1 + 3) ad) (wW 2 ad (va_up E1 0 (.inr (2, [.ref (ad 1), .null, .null, .int 0])))) := hD
  generalize g6 : va_up E1 0 (.inr (2, [.ref (ad 1), .null, .null, .int 0])) = E5 at hD hP
  have f7 : E5 0 = .inr (2, [.ref (ad 1), .null, .null, .int 0]) := by rw [← g6]; exact va_up_self _ _ _
  have f8 : E5 1 = .inl (tc 0, 12, .inl (fun _ => 0)) := by rw [← g6, va_up_ne _ _ (by omega)]; exact f4
  refine lv_aload_n hx hb dPG_init_12 rfl (lv_at hl 0 rfl) ?_
  refine lv_bipush (v := 12) hx hb dPG_init_13 (by decide) ?_
  refine q_newI 12 X w_49 hP hS (fun j hj => hsq j (by omega)) ⟨2, by decide, rfl⟩ rfl (by decide) (by decide) (by decide) dPG_init_15 (fun H hP hS => ?_)
  have hP : va_P D vwCl (wW 3 ad (va_up E5 2 (.inl (tc 0, 12, .inl (fun _ => 0))))) H := hP
  generalize g10 : va_up E5 2 (.inl (tc 0, 12, .inl (fun _ => 0))) = E9 at hP
  have f11 : E9 0 = .inr (2, [.ref (ad 1), .null, .null, .int 0]) := by rw [← g10, va_up_ne _ _ (by omega)]; exact f7
  have f12 : E9 1 = .inl (tc 0, 12, .inl (fun _ => 0)) := by rw [← g10, va_up_ne _ _ (by omega)]; exact f8
  have f13 : E9 2 = .inl (tc 0, 12, .inl (fun _ => 0)) := by rw [← g10]; exact va_up_self _ _ _
  have hD := hDD 3 (by decide) E9
  refine p_PG_15 X hin hD hP hS (by omega) (f11) rfl rfl (Nat.le_of_ble_eq_true rfl) dPG_init_17 (fun H locs hD hP hS => ?_)
  have hP : va_P D vwCl (wW 3 ad (va_up E9 0 (.inr (2, [.ref (ad 1), .ref (ad 2), .null, .int 0])))) H := hP
  have hD : va_D (Aw (1 + 3) ad) (wW 3 ad (va_up E9 0 (.inr (2, [.ref (ad 1), .ref (ad 2), .null, .int 0])))) := hD
  generalize g15 : va_up E9 0 (.inr (2, [.ref (ad 1), .ref (ad 2), .null, .int 0])) = E14 at hD hP
  have f16 : E14 0 = .inr (2, [.ref (ad 1), .ref (ad 2), .null, .int 0]) := by rw [← g15]; exact va_up_self _ _ _
  have f17 : E14 1 = .inl (tc 0, 12, .inl (fun _ => 0)) := by rw [← g15, va_up_ne _ _ (by omega)]; exact f12
  have f18 : E14 2 = .inl (tc 0, 12, .inl (fun _ => 0)) := by rw [← g15, va_up_ne _ _ (by omega)]; exact f13
  refine lv_aload_n hx hb dPG_init_20 rfl (lv_at hl 0 rfl) ?_
  refine lv_bipush (v := 12) hx hb dPG_init_21 (by decide) ?_
  refine q_newI 12 X w_49 hP hS (fun j hj => hsq j (by omega)) ⟨3, by decide, rfl⟩ rfl (by decide) (by decide) (by decide) dPG_init_23 (fun H hP hS => ?_)
  have hP : va_P D vwCl (wW 4 ad (va_up E14 3 (.inl (tc 0, 12, .inl (fun _ => 0))))) H := hP
  generalize g20 : va_up E14 3 (.inl (tc 0, 12, .inl (fun _ => 0))) = E19 at hP
  have f21 : E19 0 = .inr (2, [.ref (ad 1), .ref (ad 2), .null, .int 0]) := by rw [← g20, va_up_ne _ _ (by omega)]; exact f16
  have f22 : E19 1 = .inl (tc 0, 12, .inl (fun _ => 0)) := by rw [← g20, va_up_ne _ _ (by omega)]; exact f17
  have f23 : E19 2 = .inl (tc 0, 12, .inl (fun _ => 0)) := by rw [← g20, va_up_ne _ _ (by omega)]; exact f18
  have f24 : E19 3 = .inl (tc 0, 12, .inl (fun _ => 0)) := by rw [← g20]; exact va_up_self _ _ _
  have hD := hDD 4 (by decide) E19
  refine p_PG_18 X hin hD hP hS (by omega) (f21) rfl rfl (Nat.le_of_ble_eq_true rfl) dPG_init_25 (fun H locs hD hP hS => ?_)
  have hP : va_P D vwCl (wW 4 ad (va_up E19 0 (.inr (2, [.ref (ad 1), .ref (ad 2), .ref (ad 3), .int 0])))) H := hP
  have hD : va_D (Aw (1 + 3) ad) (wW 4 ad (va_up E19 0 (.inr (2, [.ref (ad 1), .ref (ad 2), .ref (ad 3), .int 0])))) := hD
  generalize g26 : va_up E19 0 (.inr (2, [.ref (ad 1), .ref (ad 2), .ref (ad 3), .int 0])) = E25 at hD hP
  have f27 : E25 0 = .inr (2, [.ref (ad 1), .ref (ad 2), .ref (ad 3), .int 0]) := by rw [← g26]; exact va_up_self _ _ _
  have f28 : E25 1 = .inl (tc 0, 12, .inl (fun _ => 0)) := by rw [← g26, va_up_ne _ _ (by omega)]; exact f22
  have f29 : E25 2 = .inl (tc 0, 12, .inl (fun _ => 0)) := by rw [← g26, va_up_ne _ _ (by omega)]; exact f23
  have f30 : E25 3 = .inl (tc 0, 12, .inl (fun _ => 0)) := by rw [← g26, va_up_ne _ _ (by omega)]; exact f24
  refine lv_aload_n hx hb dPG_init_28 rfl (lv_at hl 0 rfl) ?_
  refine lv_iconst (v := 0) hx hb dPG_init_29 (by decide) ?_
  refine p_PG_21 X hD hP hS (by omega) (f27) rfl rfl (Nat.le_of_ble_eq_true rfl) dPG_init_30 (fun H locs hD hP hS => ?_)
  have hP : va_P D vwCl (wW 4 ad (va_up E25 0 (.inr (2, [.ref (ad 1), .ref (ad 2), .ref (ad 3), .int 0])))) H := hP
  have hD : va_D (Aw (1 + 3) ad) (wW 4 ad (va_up E25 0 (.inr (2, [.ref (ad 1), .ref (ad 2), .ref (ad 3), .int 0])))) := hD
  generalize g32 : va_up E25 0 (.inr (2, [.ref (ad 1), .ref (ad 2), .ref (ad 3), .int 0])) = E31 at hD hP
  have f33 : E31 0 = .inr (2, [.ref (ad 1), .ref (ad 2), .ref (ad 3), .int 0]) := by rw [← g32]; exact va_up_self _ _ _
  have f34 : E31 1 = .inl (tc 0, 12, .inl (fun _ => 0)) := by rw [← g32, va_up_ne _ _ (by omega)]; exact f28
  have f35 : E31 2 = .inl (tc 0, 12, .inl (fun _ => 0)) := by rw [← g32, va_up_ne _ _ (by omega)]; exact f29
  have f36 : E31 3 = .inl (tc 0, 12, .inl (fun _ => 0)) := by rw [← g32, va_up_ne _ _ (by omega)]; exact f30
  exact q_vretN X hlk hr hP hS dPG_init_33 (⟨_, _, _, f33, f34, f35, f36⟩)
set_option maxHeartbeats 4000000 in
set_option maxRecDepth 100000 in
theorem c_WK_init (l : Launch) (D : va_G) (tc : Nat → ClassId) (ad : Nat → Nat) (E : Nat → va_E)  (h0 : E 0 = .inr (5, [.null, .int 0, .int 0, .long 0])) : CtN l D tc yWK_init 2 2 6 ad E [.ref (ad 0)] (fun E2 => isWK tc ad E2 0 0 0 0) := by
  refine CtN.ofW (cc := cWK_init) (maxL := 1) (ret := none) (own := R_WK) (by decide) rfl rfl w_53 (Nat.le_of_ble_eq_true rfl) ?_
  intro p e s m args below meth c ls X hlk hr hin hsq hDD hP hS hl
  have hx := X.1
  have hb := X.2.1
  have hD := hDD 1 (by decide) E
  have hl : lv_has ls 1 [(0, .ref (ad 0))] := hl
  refine lv_aload_n hx hb dWK_init_0 rfl (lv_at hl 0 rfl) ?_
  refine W.objInit hx hb X.2.2.2.1 (X.2.2.2.2.1 _ w_54) (X.2.2.2.2.1 _ w_26) (X.2.2.2.2.1 _ w_27) rfl (by rw [X.2.2.1]; exact hl.1) rfl dWK_init_1 (Nat.le_of_ble_eq_true rfl) (Nat.le_of_ble_eq_true rfl) ?_
  refine W.eq (g2 := F0 m 4 ls []) rfl ?_
  refine lv_aload_n hx hb dWK_init_4 rfl (lv_at hl 0 rfl) ?_
  refine q_newO (T := T_CK) (ci := 0) (fs := [.null]) ty_CK X in_CK tok_CK w_55 w_56 w_4 rfl (by decide) hP hS (fun j hj => hsq j (by omega)) ⟨1, by decide, rfl⟩ (by decide) (by decide) dWK_init_5 (fun H hP hS => ?_)
  have hP : va_P D vwCl (wW 2 ad (va_up E 1 (.inr (0, [.null])))) H := hP
  generalize g2 : va_up E 1 (.inr (0, [.null])) = E1 at hP
  have f3 : E1 0 = .inr (5, [.null, .int 0, .int 0, .long 0]) := by rw [← g2, va_up_ne _ _ (by omega)]; exact h0
  have f4 : E1 1 = .inr (0, [.null]) := by rw [← g2]; exact va_up_self _ _ _
  have hD := hDD 2 (by decide) E1
  refine lv_dup hx hb dWK_init_8 rfl ?_
  refine x_n (b := 1) (fun hz => x_runIN (b := ad 1) (As := []) (rest := [.ref (ad 1), .ref (ad 0)]) X (c_CK_init l D tc (fun k => ad (1 + k)) (fun k => E1 (1 + k)) (f4)) rfl rfl (by decide) (by decide) w_59 w_4 w_57 w_58 rfl ry_CK_init (ctN_pre (b := 1) X rfl hP (fun j hj => hsq j (by omega)) hz) ctN_blind hl.1 (Nat.le_of_ble_eq_true rfl) dWK_init_9 ⟨by decide, by decide⟩) rfl hP hS (fun j hj => hsq j (by omega)) (fun n hn E' => hDD n (by omega) E') (fun E5 H locs q8 hP hS => ?_)
  have hP : va_P D vwCl (wW 3 ad (wU (1 + 1) (fun k => 1 + k) E1 E5)) H := hP
  obtain ⟨q80, q8f, q81⟩ := q8
  generalize g6 : wU (1 + 1) (fun k => 1 + k) E1 E5 = E7 at hP
  have f9 : E7 0 = .inr (5, [.null, .int 0, .int 0, .long 0]) := by rw [← g6, wU_far (by omega)]; exact f3
  have f10 : E7 1 = .inr (0, [.ref (ad 2)]) := by rw [← g6]; exact (wU_own 0 (by omega)).trans (q80)
  have f11 : E7 2 = .inl (tc 0, 5, .inl q8f) := by rw [← g6]; exact (wU_own 1 (by omega)).trans (q81)
  have hD := hDD 3 (by decide) E7
  refine p_WK_12 X hin hD hP hS (by omega) (f9) rfl rfl (Nat.le_of_ble_eq_true rfl) dWK_init_12 (fun H locs hD hP hS => ?_)
  have hP : va_P D vwCl (wW 3 ad (va_up E7 0 (.inr (5, [.ref (ad 1), .int 0, .int 0, .long 0])))) H := hP
  have hD : va_D (Aw (1 + 2) ad) (wW 3 ad (va_up E7 0 (.inr (5, [.ref (ad 1), .int 0, .int 0, .long 0])))) := hD
  generalize g13 : va_up E7 0 (.inr (5, [.ref (ad 1), .int 0, .int 0, .long 0])) = E12 at hD hP
  have f14 : E12 0 = .inr (5, [.ref (ad 1), .int 0, .int 0, .long 0]) := by rw [← g13]; exact va_up_self _ _ _
  have f15 : E12 1 = .inr (0, [.ref (ad 2)]) := by rw [← g13, va_up_ne _ _ (by omega)]; exact f10
  have f16 : E12 2 = .inl (tc 0, 5, .inl q8f) := by rw [← g13, va_up_ne _ _ (by omega)]; exact f11
  refine lv_aload_n hx hb dWK_init_15 rfl (lv_at hl 0 rfl) ?_
  refine lv_iconst (v := 0) hx hb dWK_init_16 (by decide) ?_
  refine p_WK_18 X hD hP hS (by omega) (f14) rfl rfl (Nat.le_of_ble_eq_true rfl) dWK_init_17 (fun H locs hD hP hS => ?_)
  have hP : va_P D vwCl (wW 3 ad (va_up E12 0 (.inr (5, [.ref (ad 1), .int 0, .int 0, .long 0])))) H := hP
  have hD : va_D (Aw (1 + 2) ad) (wW 3 ad (va_up E12 0 (.inr (5, [.ref (ad 1), .int 0, .int 0, .long 0])))) := hD
  generalize g18 : va_up E12 0 (.inr (5, [.ref (ad 1), .int 0, .int 0, .long 0])) = E17 at hD hP
  have f19 : E17 0 = .inr (5, [.ref (ad 1), .int 0, .int 0, .long 0]) := by rw [← g18]; exact va_up_self _ _ _
  have f20 : E17 1 = .inr (0, [.ref (ad 2)]) := by rw [← g18, va_up_ne _ _ (by omega)]; exact f15
  have f21 : E17 2 = .inl (tc 0, 5, .inl q8f) := by rw [← g18, va_up_ne _ _ (by omega)]; exact f16
  refine lv_aload_n hx hb dWK_init_20 rfl (lv_at hl 0 rfl) ?_
  refine lv_iconst (v := 0) hx hb dWK_init_21 (by decide) ?_
  refine p_WK_22 X hD hP hS (by omega) (f19) rfl rfl (Nat.le_of_ble_eq_true rfl) dWK_init_22 (fun H locs hD hP hS => ?_)
  have hP : va_P D vwCl (wW 3 ad (va_up E17 0 (.inr (5, [.ref (ad 1), .int 0, .int 0, .long 0])))) H := hP
  have hD : va_D (Aw (1 + 2) ad) (wW 3 ad (va_up E17 0 (.inr (5, [.ref (ad 1), .int 0, .int 0, .long 0])))) := hD
  generalize g23 : va_up E17 0 (.inr (5, [.ref (ad 1), .int 0, .int 0, .long 0])) = E22 at hD hP
  have f24 : E22 0 = .inr (5, [.ref (ad 1), .int 0, .int 0, .long 0]) := by rw [← g23]; exact va_up_self _ _ _
  have f25 : E22 1 = .inr (0, [.ref (ad 2)]) := by rw [← g23, va_up_ne _ _ (by omega)]; exact f20
  have f26 : E22 2 = .inl (tc 0, 5, .inl q8f) := by rw [← g23, va_up_ne _ _ (by omega)]; exact f21
  refine lv_aload_n hx hb dWK_init_25 rfl (lv_at hl 0 rfl) ?_
  refine lv_lconst (v := 0) hx hb dWK_init_26 (by decide) ?_
  refine p_WK_25 X hD hP hS (by omega) (f24) rfl rfl (Nat.le_of_ble_eq_true rfl) dWK_init_27 (fun H locs hD hP hS => ?_)
  have hP : va_P D vwCl (wW 3 ad (va_up E22 0 (.inr (5, [.ref (ad 1), .int 0, .int 0, .long 0])))) H := hP
  have hD : va_D (Aw (1 + 2) ad) (wW 3 ad (va_up E22 0 (.inr (5, [.ref (ad 1), .int 0, .int 0, .long 0])))) := hD
  generalize g28 : va_up E22 0 (.inr (5, [.ref (ad 1), .int 0, .int 0, .long 0])) = E27 at hD hP
  have f29 : E27 0 = .inr (5, [.ref (ad 1), .int 0, .int 0, .long 0]) := by rw [← g28]; exact va_up_self _ _ _
  have f30 : E27 1 = .inr (0, [.ref (ad 2)]) := by rw [← g28, va_up_ne _ _ (by omega)]; exact f25
  have f31 : E27 2 = .inl (tc 0, 5, .inl q8f) := by rw [← g28, va_up_ne _ _ (by omega)]; exact f26
  exact q_vretN X hlk hr hP hS dWK_init_30 (⟨f29, f30, _, f31⟩)
set_option maxHeartbeats 4000000 in
set_option maxRecDepth 100000 in
theorem c_LK_init (l : Launch) (D : va_G) (tc : Nat → ClassId) (ad : Nat → Nat) (E : Nat → va_E)  (h0 : E 0 = .inr (1, [.null, .int 0, .int 0])) : CtN l D tc yLK_init 2 2 6 ad E [.ref (ad 0)] (fun E2 => isLK tc ad E2 0 (-1) 0) := by
  refine CtN.ofW (cc := cLK_init) (maxL := 1) (ret := none) (own := R_LK) (by decide) rfl rfl w_81 (Nat.le_of_ble_eq_true rfl) ?_
  intro p e s m args below meth c ls X hlk hr hin hsq hDD hP hS hl
  have hx := X.1
  have hb := X.2.1
  have hD := hDD 1 (by decide) E
  have hl : lv_has ls 1 [(0, .ref (ad 0))] := hl
  refine lv_aload_n hx hb dLK_init_0 rfl (lv_at hl 0 rfl) ?_
  refine W.objInit hx hb X.2.2.2.1 (X.2.2.2.2.1 _ w_82) (X.2.2.2.2.1 _ w_26) (X.2.2.2.2.1 _ w_27) rfl (by rw [X.2.2.1]; exact hl.1) rfl dLK_init_1 (Nat.le_of_ble_eq_true rfl) (Nat.le_of_ble_eq_true rfl) ?_
  refine W.eq (g2 := F0 m 4 ls []) rfl ?_
  refine lv_aload_n hx hb dLK_init_4 rfl (lv_at hl 0 rfl) ?_
  refine q_newO (T := T_CK) (ci := 0) (fs := [.null]) ty_CK X in_CK tok_CK w_83 w_56 w_4 rfl (by decide) hP hS (fun j hj => hsq j (by omega)) ⟨1, by decide, rfl⟩ (by decide) (by decide) dLK_init_5 (fun H hP hS => ?_)
  have hP : va_P D vwCl (wW 2 ad (va_up E 1 (.inr (0, [.null])))) H := hP
  generalize g2 : va_up E 1 (.inr (0, [.null])) = E1 at hP
  have f3 : E1 0 = .inr (1, [.null, .int 0, .int 0]) := by rw [← g2, va_up_ne _ _ (by omega)]; exact h0
  have f4 : E1 1 = .inr (0, [.null]) := by rw [← g2]; exact va_up_self _ _ _
  have hD := hDD 2 (by decide) E1
  refine lv_dup hx hb dLK_init_8 rfl ?_
  refine x_n (b := 1) (fun hz => x_runIN (b := ad 1) (As := []) (rest := [.ref (ad 1), .ref (ad 0)]) X (c_CK_init l D tc (fun k => ad (1 + k)) (fun k => E1 (1 + k)) (f4)) rfl rfl (by decide) (by decide) w_59 w_4 w_84 w_58 rfl ry_CK_init (ctN_pre (b := 1) X rfl hP (fun j hj => hsq j (by omega)) hz) ctN_blind hl.1 (Nat.le_of_ble_eq_true rfl) dLK_init_9 ⟨by decide, by decide⟩) rfl hP hS (fun j hj => hsq j (by omega)) (fun n hn E' => hDD n (by omega) E') (fun E5 H locs q8 hP hS => ?_)
  have hP : va_P D vwCl (wW 3 ad (wU (1 + 1) (fun k => 1 + k) E1 E5)) H := hP
  obtain ⟨q80, q8f, q81⟩ := q8
  generalize g6 : wU (1 + 1) (fun k => 1 + k) E1 E5 = E7 at hP
  have f9 : E7 0 = .inr (1, [.null, .int 0, .int 0]) := by rw [← g6, wU_far (by omega)]; exact f3
  have f10 : E7 1 = .inr (0, [.ref (ad 2)]) := by rw [← g6]; exact (wU_own 0 (by omega)).trans (q80)
  have f11 : E7 2 = .inl (tc 0, 5, .inl q8f) := by rw [← g6]; exact (wU_own 1 (by omega)).trans (q81)
  have hD := hDD 3 (by decide) E7
  refine p_LK_12 X hin hD hP hS (by omega) (f9) rfl rfl (Nat.le_of_ble_eq_true rfl) dLK_init_12 (fun H locs hD hP hS => ?_)
  have hP : va_P D vwCl (wW 3 ad (va_up E7 0 (.inr (1, [.ref (ad 1), .int 0, .int 0])))) H := hP
  have hD : va_D (Aw (1 + 2) ad) (wW 3 ad (va_up E7 0 (.inr (1, [.ref (ad 1), .int 0, .int 0])))) := hD
  generalize g13 : va_up E7 0 (.inr (1, [.ref (ad 1), .int 0, .int 0])) = E12 at hD hP
  have f14 : E12 0 = .inr (1, [.ref (ad 1), .int 0, .int 0]) := by rw [← g13]; exact va_up_self _ _ _
  have f15 : E12 1 = .inr (0, [.ref (ad 2)]) := by rw [← g13, va_up_ne _ _ (by omega)]; exact f10
  have f16 : E12 2 = .inl (tc 0, 5, .inl q8f) := by rw [← g13, va_up_ne _ _ (by omega)]; exact f11
  refine lv_aload_n hx hb dLK_init_15 rfl (lv_at hl 0 rfl) ?_
  refine lv_iconst (v := (-1)) hx hb dLK_init_16 (by decide) ?_
  refine p_LK_18 X hD hP hS (by omega) (f14) rfl rfl (Nat.le_of_ble_eq_true rfl) dLK_init_17 (fun H locs hD hP hS => ?_)
  have hP : va_P D vwCl (wW 3 ad (va_up E12 0 (.inr (1, [.ref (ad 1), .int (-1), .int 0])))) H := hP
  have hD : va_D (Aw (1 + 2) ad) (wW 3 ad (va_up E12 0 (.inr (1, [.ref (ad 1), .int (-1), .int 0])))) := hD
  generalize g18 : va_up E12 0 (.inr (1, [.ref (ad 1), .int (-1), .int 0])) = E17 at hD hP
  have f19 : E17 0 = .inr (1, [.ref (ad 1), .int (-1), .int 0]) := by rw [← g18]; exact va_up_self _ _ _
  have f20 : E17 1 = .inr (0, [.ref (ad 2)]) := by rw [← g18, va_up_ne _ _ (by omega)]; exact f15
  have f21 : E17 2 = .inl (tc 0, 5, .inl q8f) := by rw [← g18, va_up_ne _ _ (by omega)]; exact f16
  refine lv_aload_n hx hb dLK_init_20 rfl (lv_at hl 0 rfl) ?_
  refine lv_iconst (v := 0) hx hb dLK_init_21 (by decide) ?_
  refine p_LK_22 X hD hP hS (by omega) (f19) rfl rfl (Nat.le_of_ble_eq_true rfl) dLK_init_22 (fun H locs hD hP hS => ?_)
  have hP : va_P D vwCl (wW 3 ad (va_up E17 0 (.inr (1, [.ref (ad 1), .int (-1), .int 0])))) H := hP
  have hD : va_D (Aw (1 + 2) ad) (wW 3 ad (va_up E17 0 (.inr (1, [.ref (ad 1), .int (-1), .int 0])))) := hD
  generalize g23 : va_up E17 0 (.inr (1, [.ref (ad 1), .int (-1), .int 0])) = E22 at hD hP
  have f24 : E22 0 = .inr (1, [.ref (ad 1), .int (-1), .int 0]) := by rw [← g23]; exact va_up_self _ _ _
  have f25 : E22 1 = .inr (0, [.ref (ad 2)]) := by rw [← g23, va_up_ne _ _ (by omega)]; exact f20
  have f26 : E22 2 = .inl (tc 0, 5, .inl q8f) := by rw [← g23, va_up_ne _ _ (by omega)]; exact f21
  exact q_vretN X hlk hr hP hS dLK_init_25 (⟨f24, f25, _, f26⟩)
set_option maxHeartbeats 4000000 in
set_option maxRecDepth 100000 in
theorem c_TR_init (l : Launch) (D : va_G) (tc : Nat → ClassId) (ad : Nat → Nat) (E : Nat → va_E)  (h0 : E 0 = .inr (4, [.null, .null, .int 0])) : CtN l D tc yTR_init 1 2 1200 ad E [.ref (ad 0)] (fun E2 => ∃ fc fk : Nat → Int32, isTR tc ad E2 0 0 fc fk) := by
  refine CtN.ofW (cc := cTR_init) (maxL := 1) (ret := none) (own := R_TR) (by decide) rfl rfl w_100 (Nat.le_of_ble_eq_true rfl) ?_
  intro p e s m args below meth c ls X hlk hr hin hsq hDD hP hS hl
  have hx := X.1
  have hb := X.2.1
  have hD := hDD 1 (by decide) E
  have hl : lv_has ls 1 [(0, .ref (ad 0))] := hl
  refine lv_aload_n hx hb dTR_init_0 rfl (lv_at hl 0 rfl) ?_
  refine W.objInit hx hb X.2.2.2.1 (X.2.2.2.2.1 _ w_101) (X.2.2.2.2.1 _ w_26) (X.2.2.2.2.1 _ w_27) rfl (by rw [X.2.2.1]; exact hl.1) rfl dTR_init_1 (Nat.le_of_ble_eq_true rfl) (Nat.le_of_ble_eq_true rfl) ?_
  refine W.eq (g2 := F0 m 4 ls []) rfl ?_
  refine lv_aload_n hx hb dTR_init_4 rfl (lv_at hl 0 rfl) ?_
  refine lv_sipush (v := 200) hx hb dTR_init_5 (by decide) ?_
  refine q_newI 200 X w_49 hP hS (fun j hj => hsq j (by omega)) ⟨1, by decide, rfl⟩ rfl (by decide) (by decide) (by decide) dTR_init_8 (fun H hP hS => ?_)
  have hP : va_P D vwCl (wW 2 ad (va_up E 1 (.inl (tc 0, 200, .inl (fun _ => 0))))) H := hP
  generalize g2 : va_up E 1 (.inl (tc 0, 200, .inl (fun _ => 0))) = E1 at hP
  have f3 : E1 0 = .inr (4, [.null, .null, .int 0]) := by rw [← g2, va_up_ne _ _ (by omega)]; exact h0
  have f4 : E1 1 = .inl (tc 0, 200, .inl (fun _ => 0)) := by rw [← g2]; exact va_up_self _ _ _
  have hD := hDD 2 (by decide) E1
  refine p_TR_9 X hin hD hP hS (by omega) (f3) rfl rfl (Nat.le_of_ble_eq_true rfl) dTR_init_10 (fun H locs hD hP hS => ?_)
  have hP : va_P D vwCl (wW 2 ad (va_up E1 0 (.inr (4, [.ref (ad 1), .null, .int 0])))) H := hP
  have hD : va_D (Aw (1 + 2) ad) (wW 2 ad (va_up E1 0 (.inr (4, [.ref (ad 1), .null, .int 0])))) := hD
  generalize g6 : va_up E1 0 (.inr (4, [.ref (ad 1), .null, .int 0])) = E5 at hD hP
  have f7 : E5 0 = .inr (4, [.ref (ad 1), .null, .int 0]) := by rw [← g6]; exact va_up_self _ _ _
  have f8 : E5 1 = .inl (tc 0, 200, .inl (fun _ => 0)) := by rw [← g6, va_up_ne _ _ (by omega)]; exact f4
  refine lv_aload_n hx hb dTR_init_13 rfl (lv_at hl 0 rfl) ?_
  refine lv_sipush (v := 1000) hx hb dTR_init_14 (by decide) ?_
  refine q_newI 1000 X w_49 hP hS (fun j hj => hsq j (by omega)) ⟨2, by decide, rfl⟩ rfl (by decide) (by decide) (by decide) dTR_init_17 (fun H hP hS => ?_)
  have hP : va_P D vwCl (wW 3 ad (va_up E5 2 (.inl (tc 0, 1000, .inl (fun _ => 0))))) H := hP
  generalize g10 : va_up E5 2 (.inl (tc 0, 1000, .inl (fun _ => 0))) = E9 at hP
  have f11 : E9 0 = .inr (4, [.ref (ad 1), .null, .int 0]) := by rw [← g10, va_up_ne _ _ (by omega)]; exact f7
  have f12 : E9 1 = .inl (tc 0, 200, .inl (fun _ => 0)) := by rw [← g10, va_up_ne _ _ (by omega)]; exact f8
  have f13 : E9 2 = .inl (tc 0, 1000, .inl (fun _ => 0)) := by rw [← g10]; exact va_up_self _ _ _
  have hD := hDD 3 (by decide) E9
  refine p_TR_15 X hin hD hP hS (by omega) (f11) rfl rfl (Nat.le_of_ble_eq_true rfl) dTR_init_19 (fun H locs hD hP hS => ?_)
  have hP : va_P D vwCl (wW 3 ad (va_up E9 0 (.inr (4, [.ref (ad 1), .ref (ad 2), .int 0])))) H := hP
  have hD : va_D (Aw (1 + 2) ad) (wW 3 ad (va_up E9 0 (.inr (4, [.ref (ad 1), .ref (ad 2), .int 0])))) := hD
  generalize g15 : va_up E9 0 (.inr (4, [.ref (ad 1), .ref (ad 2), .int 0])) = E14 at hD hP
  have f16 : E14 0 = .inr (4, [.ref (ad 1), .ref (ad 2), .int 0]) := by rw [← g15]; exact va_up_self _ _ _
  have f17 : E14 1 = .inl (tc 0, 200, .inl (fun _ => 0)) := by rw [← g15, va_up_ne _ _ (by omega)]; exact f12
  have f18 : E14 2 = .inl (tc 0, 1000, .inl (fun _ => 0)) := by rw [← g15, va_up_ne _ _ (by omega)]; exact f13
  refine lv_aload_n hx hb dTR_init_22 rfl (lv_at hl 0 rfl) ?_
  refine lv_iconst (v := 0) hx hb dTR_init_23 (by decide) ?_
  refine p_TR_18 X hD hP hS (by omega) (f16) rfl rfl (Nat.le_of_ble_eq_true rfl) dTR_init_24 (fun H locs hD hP hS => ?_)
  have hP : va_P D vwCl (wW 3 ad (va_up E14 0 (.inr (4, [.ref (ad 1), .ref (ad 2), .int 0])))) H := hP
  have hD : va_D (Aw (1 + 2) ad) (wW 3 ad (va_up E14 0 (.inr (4, [.ref (ad 1), .ref (ad 2), .int 0])))) := hD
  generalize g20 : va_up E14 0 (.inr (4, [.ref (ad 1), .ref (ad 2), .int 0])) = E19 at hD hP
  have f21 : E19 0 = .inr (4, [.ref (ad 1), .ref (ad 2), .int 0]) := by rw [← g20]; exact va_up_self _ _ _
  have f22 : E19 1 = .inl (tc 0, 200, .inl (fun _ => 0)) := by rw [← g20, va_up_ne _ _ (by omega)]; exact f17
  have f23 : E19 2 = .inl (tc 0, 1000, .inl (fun _ => 0)) := by rw [← g20, va_up_ne _ _ (by omega)]; exact f18
  exact q_vretN X hlk hr hP hS dTR_init_27 (⟨_, _, f21, f22, f23⟩)
end
