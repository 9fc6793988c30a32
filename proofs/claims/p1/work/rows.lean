section
-- ===== PART A: goes FIRST, ahead of the names: the tables' words, and 'selects' of the private methods out of them =====
/-- a private method of a class that the tables say can be made, by its rows of tables_1 -/
def lw_okq (q : MethodName × Nat) : Prop := (q.1.cls ≠ "java/lang/invoke/MethodHandle" ∧ q.1.cls ≠ "java/lang/invoke/VarHandle") ∧ Cond.instantiable q.1.cls q.2 ∈ tables_1 ∧ Cond.privateMethod q.1 ∈ tables_1 ∧ Cond.instanceMethod q.1 ∈ tables_1
theorem lw_p0 : lw_okq (⟨"FrontDoor", "refuse", "(I)I"⟩, 13) := ⟨⟨by decide +kernel, by decide +kernel⟩, List.mem_of_getElem? (i := 16) (by decide +kernel), List.mem_of_getElem? (i := 95) (by decide +kernel), List.mem_of_getElem? (i := 96) (by decide +kernel)⟩
theorem lw_p1 : lw_okq (⟨"java/util/ArrayList", "add", "(Ljava/lang/Object;[Ljava/lang/Object;I)V"⟩, 3) := ⟨⟨by decide +kernel, by decide +kernel⟩, List.mem_of_getElem? (i := 24) (by decide +kernel), List.mem_of_getElem? (i := 178) (by decide +kernel), List.mem_of_getElem? (i := 179) (by decide +kernel)⟩
theorem lw_p2 : lw_okq (⟨"java/util/ArrayList", "grow", "()[Ljava/lang/Object;"⟩, 3) := ⟨⟨by decide +kernel, by decide +kernel⟩, List.mem_of_getElem? (i := 24) (by decide +kernel), List.mem_of_getElem? (i := 182) (by decide +kernel), List.mem_of_getElem? (i := 183) (by decide +kernel)⟩
theorem lw_p3 : lw_okq (⟨"java/util/ArrayList", "grow", "(I)[Ljava/lang/Object;"⟩, 3) := ⟨⟨by decide +kernel, by decide +kernel⟩, List.mem_of_getElem? (i := 24) (by decide +kernel), List.mem_of_getElem? (i := 186) (by decide +kernel), List.mem_of_getElem? (i := 187) (by decide +kernel)⟩
theorem lw_p4 : lw_okq (⟨"FrontDoor", "serverAt", "(I)LFrontDoor$Server;"⟩, 13) := ⟨⟨by decide +kernel, by decide +kernel⟩, List.mem_of_getElem? (i := 16) (by decide +kernel), List.mem_of_getElem? (i := 231) (by decide +kernel), List.mem_of_getElem? (i := 232) (by decide +kernel)⟩
theorem lw_p5 : lw_okq (⟨"FrontDoor", "askByRule", "(LFrontDoor$Call;)Z"⟩, 13) := ⟨⟨by decide +kernel, by decide +kernel⟩, List.mem_of_getElem? (i := 16) (by decide +kernel), List.mem_of_getElem? (i := 349) (by decide +kernel), List.mem_of_getElem? (i := 350) (by decide +kernel)⟩
theorem lw_p6 : lw_okq (⟨"FrontDoor", "chosen", "(II)LFrontDoor$Server;"⟩, 13) := ⟨⟨by decide +kernel, by decide +kernel⟩, List.mem_of_getElem? (i := 16) (by decide +kernel), List.mem_of_getElem? (i := 353) (by decide +kernel), List.mem_of_getElem? (i := 354) (by decide +kernel)⟩
theorem lw_p7 : lw_okq (⟨"FrontDoor", "byTurn", "(I)LFrontDoor$Server;"⟩, 13) := ⟨⟨by decide +kernel, by decide +kernel⟩, List.mem_of_getElem? (i := 16) (by decide +kernel), List.mem_of_getElem? (i := 357) (by decide +kernel), List.mem_of_getElem? (i := 358) (by decide +kernel)⟩
theorem lw_p8 : lw_okq (⟨"FrontDoor", "byRing", "(II)LFrontDoor$Server;"⟩, 13) := ⟨⟨by decide +kernel, by decide +kernel⟩, List.mem_of_getElem? (i := 16) (by decide +kernel), List.mem_of_getElem? (i := 365) (by decide +kernel), List.mem_of_getElem? (i := 366) (by decide +kernel)⟩
theorem lw_p9 : lw_okq (⟨"FrontDoor", "byFewest", "(II)LFrontDoor$Server;"⟩, 13) := ⟨⟨by decide +kernel, by decide +kernel⟩, List.mem_of_getElem? (i := 16) (by decide +kernel), List.mem_of_getElem? (i := 381) (by decide +kernel), List.mem_of_getElem? (i := 382) (by decide +kernel)⟩
theorem lw_p10 : lw_okq (⟨"FrontDoor", "settleCredits", "(ILFrontDoor$Server;)V"⟩, 13) := ⟨⟨by decide +kernel, by decide +kernel⟩, List.mem_of_getElem? (i := 16) (by decide +kernel), List.mem_of_getElem? (i := 385) (by decide +kernel), List.mem_of_getElem? (i := 386) (by decide +kernel)⟩
theorem lw_p11 : lw_okq (⟨"FrontDoor", "joinLine", "(LFrontDoor$Call;)V"⟩, 13) := ⟨⟨by decide +kernel, by decide +kernel⟩, List.mem_of_getElem? (i := 16) (by decide +kernel), List.mem_of_getElem? (i := 421) (by decide +kernel), List.mem_of_getElem? (i := 422) (by decide +kernel)⟩
theorem lw_p12 : lw_okq (⟨"java/util/ArrayList", "rangeCheckForAdd", "(I)V"⟩, 3) := ⟨⟨by decide +kernel, by decide +kernel⟩, List.mem_of_getElem? (i := 24) (by decide +kernel), List.mem_of_getElem? (i := 433) (by decide +kernel), List.mem_of_getElem? (i := 434) (by decide +kernel)⟩
theorem lw_p13 : lw_okq (⟨"FrontDoor", "callAt", "(I)LFrontDoor$Call;"⟩, 13) := ⟨⟨by decide +kernel, by decide +kernel⟩, List.mem_of_getElem? (i := 16) (by decide +kernel), List.mem_of_getElem? (i := 442) (by decide +kernel), List.mem_of_getElem? (i := 443) (by decide +kernel)⟩
theorem lw_p14 : lw_okq (⟨"FrontDoor", "leaveLine", "(LFrontDoor$Call;)V"⟩, 13) := ⟨⟨by decide +kernel, by decide +kernel⟩, List.mem_of_getElem? (i := 16) (by decide +kernel), List.mem_of_getElem? (i := 450) (by decide +kernel), List.mem_of_getElem? (i := 451) (by decide +kernel)⟩
theorem lw_p15 : lw_okq (⟨"java/util/ArrayList", "fastRemove", "([Ljava/lang/Object;I)V"⟩, 3) := ⟨⟨by decide +kernel, by decide +kernel⟩, List.mem_of_getElem? (i := 24) (by decide +kernel), List.mem_of_getElem? (i := 458) (by decide +kernel), List.mem_of_getElem? (i := 459) (by decide +kernel)⟩
def lw_privs_1 : List (MethodName × Nat) := [(⟨"FrontDoor", "refuse", "(I)I"⟩, 13), (⟨"java/util/ArrayList", "add", "(Ljava/lang/Object;[Ljava/lang/Object;I)V"⟩, 3), (⟨"java/util/ArrayList", "grow", "()[Ljava/lang/Object;"⟩, 3), (⟨"java/util/ArrayList", "grow", "(I)[Ljava/lang/Object;"⟩, 3), (⟨"FrontDoor", "serverAt", "(I)LFrontDoor$Server;"⟩, 13), (⟨"FrontDoor", "askByRule", "(LFrontDoor$Call;)Z"⟩, 13), (⟨"FrontDoor", "chosen", "(II)LFrontDoor$Server;"⟩, 13), (⟨"FrontDoor", "byTurn", "(I)LFrontDoor$Server;"⟩, 13), (⟨"FrontDoor", "byRing", "(II)LFrontDoor$Server;"⟩, 13), (⟨"FrontDoor", "byFewest", "(II)LFrontDoor$Server;"⟩, 13), (⟨"FrontDoor", "settleCredits", "(ILFrontDoor$Server;)V"⟩, 13), (⟨"FrontDoor", "joinLine", "(LFrontDoor$Call;)V"⟩, 13), (⟨"java/util/ArrayList", "rangeCheckForAdd", "(I)V"⟩, 3), (⟨"FrontDoor", "callAt", "(I)LFrontDoor$Call;"⟩, 13), (⟨"FrontDoor", "leaveLine", "(LFrontDoor$Call;)V"⟩, 13), (⟨"java/util/ArrayList", "fastRemove", "([Ljava/lang/Object;I)V"⟩, 3)]
theorem lw_r1 : ∀ q ∈ lw_privs_1, lw_okq q := List.forall_mem_cons.mpr ⟨lw_p0, List.forall_mem_cons.mpr ⟨lw_p1, List.forall_mem_cons.mpr ⟨lw_p2, List.forall_mem_cons.mpr ⟨lw_p3, List.forall_mem_cons.mpr ⟨lw_p4, List.forall_mem_cons.mpr ⟨lw_p5, List.forall_mem_cons.mpr ⟨lw_p6, List.forall_mem_cons.mpr ⟨lw_p7, List.forall_mem_cons.mpr ⟨lw_p8, List.forall_mem_cons.mpr ⟨lw_p9, List.forall_mem_cons.mpr ⟨lw_p10, List.forall_mem_cons.mpr ⟨lw_p11, List.forall_mem_cons.mpr ⟨lw_p12, List.forall_mem_cons.mpr ⟨lw_p13, List.forall_mem_cons.mpr ⟨lw_p14, List.forall_mem_cons.mpr ⟨lw_p15, fun _ h => absurd h List.not_mem_nil⟩⟩⟩⟩⟩⟩⟩⟩⟩⟩⟩⟩⟩⟩⟩⟩
theorem lw_p16 : lw_okq (⟨"FrontDoor", "end", "(LFrontDoor$Call;I)V"⟩, 13) := ⟨⟨by decide +kernel, by decide +kernel⟩, List.mem_of_getElem? (i := 16) (by decide +kernel), List.mem_of_getElem? (i := 470) (by decide +kernel), List.mem_of_getElem? (i := 471) (by decide +kernel)⟩
theorem lw_p17 : lw_okq (⟨"FrontDoor", "dropEnded", "()V"⟩, 13) := ⟨⟨by decide +kernel, by decide +kernel⟩, List.mem_of_getElem? (i := 16) (by decide +kernel), List.mem_of_getElem? (i := 474) (by decide +kernel), List.mem_of_getElem? (i := 475) (by decide +kernel)⟩
theorem lw_p18 : lw_okq (⟨"FrontDoor", "passTick", "()V"⟩, 13) := ⟨⟨by decide +kernel, by decide +kernel⟩, List.mem_of_getElem? (i := 16) (by decide +kernel), List.mem_of_getElem? (i := 482) (by decide +kernel), List.mem_of_getElem? (i := 483) (by decide +kernel)⟩
theorem lw_p19 : lw_okq (⟨"FrontDoor", "takeWhatIsOver", "()V"⟩, 13) := ⟨⟨by decide +kernel, by decide +kernel⟩, List.mem_of_getElem? (i := 16) (by decide +kernel), List.mem_of_getElem? (i := 486) (by decide +kernel), List.mem_of_getElem? (i := 487) (by decide +kernel)⟩
theorem lw_p20 : lw_okq (⟨"FrontDoor", "takeAnswer", "(LFrontDoor$Call;LFrontDoor$Asking;)V"⟩, 13) := ⟨⟨by decide +kernel, by decide +kernel⟩, List.mem_of_getElem? (i := 16) (by decide +kernel), List.mem_of_getElem? (i := 490) (by decide +kernel), List.mem_of_getElem? (i := 491) (by decide +kernel)⟩
theorem lw_p21 : lw_okq (⟨"FrontDoor", "failureOf", "(LFrontDoor$Server;)V"⟩, 13) := ⟨⟨by decide +kernel, by decide +kernel⟩, List.mem_of_getElem? (i := 16) (by decide +kernel), List.mem_of_getElem? (i := 499) (by decide +kernel), List.mem_of_getElem? (i := 500) (by decide +kernel)⟩
theorem lw_p22 : lw_okq (⟨"FrontDoor", "oneMoreOutIsTooMany", "()Z"⟩, 13) := ⟨⟨by decide +kernel, by decide +kernel⟩, List.mem_of_getElem? (i := 16) (by decide +kernel), List.mem_of_getElem? (i := 503) (by decide +kernel), List.mem_of_getElem? (i := 504) (by decide +kernel)⟩
theorem lw_p23 : lw_okq (⟨"FrontDoor", "budgetHolds", "()Z"⟩, 13) := ⟨⟨by decide +kernel, by decide +kernel⟩, List.mem_of_getElem? (i := 16) (by decide +kernel), List.mem_of_getElem? (i := 511) (by decide +kernel), List.mem_of_getElem? (i := 512) (by decide +kernel)⟩
theorem lw_p24 : lw_okq (⟨"FrontDoor", "meetDues", "()V"⟩, 13) := ⟨⟨by decide +kernel, by decide +kernel⟩, List.mem_of_getElem? (i := 16) (by decide +kernel), List.mem_of_getElem? (i := 515) (by decide +kernel), List.mem_of_getElem? (i := 516) (by decide +kernel)⟩
theorem lw_p25 : lw_okq (⟨"FrontDoor", "failByDue", "(LFrontDoor$Call;)V"⟩, 13) := ⟨⟨by decide +kernel, by decide +kernel⟩, List.mem_of_getElem? (i := 16) (by decide +kernel), List.mem_of_getElem? (i := 519) (by decide +kernel), List.mem_of_getElem? (i := 520) (by decide +kernel)⟩
theorem lw_p26 : lw_okq (⟨"FrontDoor", "tryThoseOut", "()V"⟩, 13) := ⟨⟨by decide +kernel, by decide +kernel⟩, List.mem_of_getElem? (i := 16) (by decide +kernel), List.mem_of_getElem? (i := 523) (by decide +kernel), List.mem_of_getElem? (i := 524) (by decide +kernel)⟩
theorem lw_p27 : lw_okq (⟨"FrontDoor", "hedgeSlow", "()V"⟩, 13) := ⟨⟨by decide +kernel, by decide +kernel⟩, List.mem_of_getElem? (i := 16) (by decide +kernel), List.mem_of_getElem? (i := 527) (by decide +kernel), List.mem_of_getElem? (i := 528) (by decide +kernel)⟩
theorem lw_p28 : lw_okq (⟨"FrontDoor", "askQueued", "()V"⟩, 13) := ⟨⟨by decide +kernel, by decide +kernel⟩, List.mem_of_getElem? (i := 16) (by decide +kernel), List.mem_of_getElem? (i := 531) (by decide +kernel), List.mem_of_getElem? (i := 532) (by decide +kernel)⟩
theorem lw_p29 : lw_okq (⟨"FrontDoor", "letDrainedGo", "()V"⟩, 13) := ⟨⟨by decide +kernel, by decide +kernel⟩, List.mem_of_getElem? (i := 16) (by decide +kernel), List.mem_of_getElem? (i := 535) (by decide +kernel), List.mem_of_getElem? (i := 536) (by decide +kernel)⟩
theorem lw_p30 : lw_okq (⟨"FrontDoor", "askingsSoFar", "()I"⟩, 13) := ⟨⟨by decide +kernel, by decide +kernel⟩, List.mem_of_getElem? (i := 16) (by decide +kernel), List.mem_of_getElem? (i := 569) (by decide +kernel), List.mem_of_getElem? (i := 570) (by decide +kernel)⟩
theorem lw_p31 : lw_okq (⟨"FrontDoor", "callsThatAre", "(I)I"⟩, 13) := ⟨⟨by decide +kernel, by decide +kernel⟩, List.mem_of_getElem? (i := 16) (by decide +kernel), List.mem_of_getElem? (i := 577) (by decide +kernel), List.mem_of_getElem? (i := 578) (by decide +kernel)⟩
def lw_privs_2 : List (MethodName × Nat) := [(⟨"FrontDoor", "end", "(LFrontDoor$Call;I)V"⟩, 13), (⟨"FrontDoor", "dropEnded", "()V"⟩, 13), (⟨"FrontDoor", "passTick", "()V"⟩, 13), (⟨"FrontDoor", "takeWhatIsOver", "()V"⟩, 13), (⟨"FrontDoor", "takeAnswer", "(LFrontDoor$Call;LFrontDoor$Asking;)V"⟩, 13), (⟨"FrontDoor", "failureOf", "(LFrontDoor$Server;)V"⟩, 13), (⟨"FrontDoor", "oneMoreOutIsTooMany", "()Z"⟩, 13), (⟨"FrontDoor", "budgetHolds", "()Z"⟩, 13), (⟨"FrontDoor", "meetDues", "()V"⟩, 13), (⟨"FrontDoor", "failByDue", "(LFrontDoor$Call;)V"⟩, 13), (⟨"FrontDoor", "tryThoseOut", "()V"⟩, 13), (⟨"FrontDoor", "hedgeSlow", "()V"⟩, 13), (⟨"FrontDoor", "askQueued", "()V"⟩, 13), (⟨"FrontDoor", "letDrainedGo", "()V"⟩, 13), (⟨"FrontDoor", "askingsSoFar", "()I"⟩, 13), (⟨"FrontDoor", "callsThatAre", "(I)I"⟩, 13)]
theorem lw_r2 : ∀ q ∈ lw_privs_2, lw_okq q := List.forall_mem_cons.mpr ⟨lw_p16, List.forall_mem_cons.mpr ⟨lw_p17, List.forall_mem_cons.mpr ⟨lw_p18, List.forall_mem_cons.mpr ⟨lw_p19, List.forall_mem_cons.mpr ⟨lw_p20, List.forall_mem_cons.mpr ⟨lw_p21, List.forall_mem_cons.mpr ⟨lw_p22, List.forall_mem_cons.mpr ⟨lw_p23, List.forall_mem_cons.mpr ⟨lw_p24, List.forall_mem_cons.mpr ⟨lw_p25, List.forall_mem_cons.mpr ⟨lw_p26, List.forall_mem_cons.mpr ⟨lw_p27, List.forall_mem_cons.mpr ⟨lw_p28, List.forall_mem_cons.mpr ⟨lw_p29, List.forall_mem_cons.mpr ⟨lw_p30, List.forall_mem_cons.mpr ⟨lw_p31, fun _ h => absurd h List.not_mem_nil⟩⟩⟩⟩⟩⟩⟩⟩⟩⟩⟩⟩⟩⟩⟩⟩
theorem lw_p32 : lw_okq (⟨"FrontDoor", "openAskings", "()I"⟩, 13) := ⟨⟨by decide +kernel, by decide +kernel⟩, List.mem_of_getElem? (i := 16) (by decide +kernel), List.mem_of_getElem? (i := 581) (by decide +kernel), List.mem_of_getElem? (i := 582) (by decide +kernel)⟩
theorem lw_p33 : lw_okq (⟨"FrontDoorModel", "refuse", "(I)I"⟩, 43) := ⟨⟨by decide +kernel, by decide +kernel⟩, List.mem_of_getElem? (i := 585) (by decide +kernel), List.mem_of_getElem? (i := 729) (by decide +kernel), List.mem_of_getElem? (i := 730) (by decide +kernel)⟩
theorem lw_p34 : lw_okq (⟨"FrontDoorModel", "isServer", "(I)Z"⟩, 43) := ⟨⟨by decide +kernel, by decide +kernel⟩, List.mem_of_getElem? (i := 585) (by decide +kernel), List.mem_of_getElem? (i := 737) (by decide +kernel), List.mem_of_getElem? (i := 738) (by decide +kernel)⟩
theorem lw_p35 : lw_okq (⟨"FrontDoorModel", "asksFor", "(I)Z"⟩, 43) := ⟨⟨by decide +kernel, by decide +kernel⟩, List.mem_of_getElem? (i := 585) (by decide +kernel), List.mem_of_getElem? (i := 775) (by decide +kernel), List.mem_of_getElem? (i := 776) (by decide +kernel)⟩
theorem lw_p36 : lw_okq (⟨"FrontDoorModel", "mays", "(I)I"⟩, 43) := ⟨⟨by decide +kernel, by decide +kernel⟩, List.mem_of_getElem? (i := 585) (by decide +kernel), List.mem_of_getElem? (i := 779) (by decide +kernel), List.mem_of_getElem? (i := 780) (by decide +kernel)⟩
theorem lw_p37 : lw_okq (⟨"FrontDoorModel", "picked", "(IIZ)I"⟩, 43) := ⟨⟨by decide +kernel, by decide +kernel⟩, List.mem_of_getElem? (i := 585) (by decide +kernel), List.mem_of_getElem? (i := 783) (by decide +kernel), List.mem_of_getElem? (i := 784) (by decide +kernel)⟩
theorem lw_p38 : lw_okq (⟨"FrontDoorModel", "byTurns", "(IZ)I"⟩, 43) := ⟨⟨by decide +kernel, by decide +kernel⟩, List.mem_of_getElem? (i := 585) (by decide +kernel), List.mem_of_getElem? (i := 787) (by decide +kernel), List.mem_of_getElem? (i := 788) (by decide +kernel)⟩
theorem lw_p39 : lw_okq (⟨"FrontDoorModel", "fewest", "(I)I"⟩, 43) := ⟨⟨by decide +kernel, by decide +kernel⟩, List.mem_of_getElem? (i := 585) (by decide +kernel), List.mem_of_getElem? (i := 791) (by decide +kernel), List.mem_of_getElem? (i := 792) (by decide +kernel)⟩
theorem lw_p40 : lw_okq (⟨"FrontDoorModel", "onRing", "(II)I"⟩, 43) := ⟨⟨by decide +kernel, by decide +kernel⟩, List.mem_of_getElem? (i := 585) (by decide +kernel), List.mem_of_getElem? (i := 795) (by decide +kernel), List.mem_of_getElem? (i := 796) (by decide +kernel)⟩
theorem lw_p41 : lw_okq (⟨"FrontDoorModel", "near", "(II)I"⟩, 43) := ⟨⟨by decide +kernel, by decide +kernel⟩, List.mem_of_getElem? (i := 585) (by decide +kernel), List.mem_of_getElem? (i := 803) (by decide +kernel), List.mem_of_getElem? (i := 804) (by decide +kernel)⟩
theorem lw_p42 : lw_okq (⟨"FrontDoorModel", "ask", "(II)V"⟩, 43) := ⟨⟨by decide +kernel, by decide +kernel⟩, List.mem_of_getElem? (i := 585) (by decide +kernel), List.mem_of_getElem? (i := 807) (by decide +kernel), List.mem_of_getElem? (i := 808) (by decide +kernel)⟩
theorem lw_p43 : lw_okq (⟨"FrontDoorModel", "isCall", "(I)Z"⟩, 43) := ⟨⟨by decide +kernel, by decide +kernel⟩, List.mem_of_getElem? (i := 585) (by decide +kernel), List.mem_of_getElem? (i := 816) (by decide +kernel), List.mem_of_getElem? (i := 817) (by decide +kernel)⟩
theorem lw_p44 : lw_okq (⟨"FrontDoorModel", "ends", "(II)V"⟩, 43) := ⟨⟨by decide +kernel, by decide +kernel⟩, List.mem_of_getElem? (i := 585) (by decide +kernel), List.mem_of_getElem? (i := 820) (by decide +kernel), List.mem_of_getElem? (i := 821) (by decide +kernel)⟩
theorem lw_p45 : lw_okq (⟨"FrontDoorModel", "takes", "(II)V"⟩, 43) := ⟨⟨by decide +kernel, by decide +kernel⟩, List.mem_of_getElem? (i := 585) (by decide +kernel), List.mem_of_getElem? (i := 824) (by decide +kernel), List.mem_of_getElem? (i := 825) (by decide +kernel)⟩
theorem lw_p46 : lw_okq (⟨"FrontDoorModel", "goesOn", "()I"⟩, 43) := ⟨⟨by decide +kernel, by decide +kernel⟩, List.mem_of_getElem? (i := 585) (by decide +kernel), List.mem_of_getElem? (i := 832) (by decide +kernel), List.mem_of_getElem? (i := 833) (by decide +kernel)⟩
theorem lw_p47 : lw_okq (⟨"FrontDoorModel", "comesBack", "(I)Z"⟩, 43) := ⟨⟨by decide +kernel, by decide +kernel⟩, List.mem_of_getElem? (i := 585) (by decide +kernel), List.mem_of_getElem? (i := 836) (by decide +kernel), List.mem_of_getElem? (i := 837) (by decide +kernel)⟩
def lw_privs_3 : List (MethodName × Nat) := [(⟨"FrontDoor", "openAskings", "()I"⟩, 13), (⟨"FrontDoorModel", "refuse", "(I)I"⟩, 43), (⟨"FrontDoorModel", "isServer", "(I)Z"⟩, 43), (⟨"FrontDoorModel", "asksFor", "(I)Z"⟩, 43), (⟨"FrontDoorModel", "mays", "(I)I"⟩, 43), (⟨"FrontDoorModel", "picked", "(IIZ)I"⟩, 43), (⟨"FrontDoorModel", "byTurns", "(IZ)I"⟩, 43), (⟨"FrontDoorModel", "fewest", "(I)I"⟩, 43), (⟨"FrontDoorModel", "onRing", "(II)I"⟩, 43), (⟨"FrontDoorModel", "near", "(II)I"⟩, 43), (⟨"FrontDoorModel", "ask", "(II)V"⟩, 43), (⟨"FrontDoorModel", "isCall", "(I)Z"⟩, 43), (⟨"FrontDoorModel", "ends", "(II)V"⟩, 43), (⟨"FrontDoorModel", "takes", "(II)V"⟩, 43), (⟨"FrontDoorModel", "goesOn", "()I"⟩, 43), (⟨"FrontDoorModel", "comesBack", "(I)Z"⟩, 43)]
theorem lw_r3 : ∀ q ∈ lw_privs_3, lw_okq q := List.forall_mem_cons.mpr ⟨lw_p32, List.forall_mem_cons.mpr ⟨lw_p33, List.forall_mem_cons.mpr ⟨lw_p34, List.forall_mem_cons.mpr ⟨lw_p35, List.forall_mem_cons.mpr ⟨lw_p36, List.forall_mem_cons.mpr ⟨lw_p37, List.forall_mem_cons.mpr ⟨lw_p38, List.forall_mem_cons.mpr ⟨lw_p39, List.forall_mem_cons.mpr ⟨lw_p40, List.forall_mem_cons.mpr ⟨lw_p41, List.forall_mem_cons.mpr ⟨lw_p42, List.forall_mem_cons.mpr ⟨lw_p43, List.forall_mem_cons.mpr ⟨lw_p44, List.forall_mem_cons.mpr ⟨lw_p45, List.forall_mem_cons.mpr ⟨lw_p46, List.forall_mem_cons.mpr ⟨lw_p47, fun _ h => absurd h List.not_mem_nil⟩⟩⟩⟩⟩⟩⟩⟩⟩⟩⟩⟩⟩⟩⟩⟩
theorem lw_p48 : lw_okq (⟨"FrontDoorModel", "answer", "(I)V"⟩, 43) := ⟨⟨by decide +kernel, by decide +kernel⟩, List.mem_of_getElem? (i := 585) (by decide +kernel), List.mem_of_getElem? (i := 840) (by decide +kernel), List.mem_of_getElem? (i := 841) (by decide +kernel)⟩
theorem lw_p49 : lw_okq (⟨"FrontDoorModel", "failure", "(I)V"⟩, 43) := ⟨⟨by decide +kernel, by decide +kernel⟩, List.mem_of_getElem? (i := 585) (by decide +kernel), List.mem_of_getElem? (i := 844) (by decide +kernel), List.mem_of_getElem? (i := 845) (by decide +kernel)⟩
theorem lw_p50 : lw_okq (⟨"FrontDoorModel", "outsNow", "(Z)I"⟩, 43) := ⟨⟨by decide +kernel, by decide +kernel⟩, List.mem_of_getElem? (i := 585) (by decide +kernel), List.mem_of_getElem? (i := 848) (by decide +kernel), List.mem_of_getElem? (i := 849) (by decide +kernel)⟩
theorem lw_p51 : lw_okq (⟨"FrontDoorModel", "isDue", "(I)Z"⟩, 43) := ⟨⟨by decide +kernel, by decide +kernel⟩, List.mem_of_getElem? (i := 585) (by decide +kernel), List.mem_of_getElem? (i := 853) (by decide +kernel), List.mem_of_getElem? (i := 854) (by decide +kernel)⟩
theorem lw_p52 : lw_okq (⟨"FrontDoorModel", "hedges", "(I)V"⟩, 43) := ⟨⟨by decide +kernel, by decide +kernel⟩, List.mem_of_getElem? (i := 585) (by decide +kernel), List.mem_of_getElem? (i := 857) (by decide +kernel), List.mem_of_getElem? (i := 858) (by decide +kernel)⟩
theorem lw_p53 : lw_okq (⟨"FrontDoorModel", "line", "()V"⟩, 43) := ⟨⟨by decide +kernel, by decide +kernel⟩, List.mem_of_getElem? (i := 585) (by decide +kernel), List.mem_of_getElem? (i := 861) (by decide +kernel), List.mem_of_getElem? (i := 862) (by decide +kernel)⟩
theorem lw_p54 : lw_okq (⟨"FrontDoorModel", "isAhead", "(II)Z"⟩, 43) := ⟨⟨by decide +kernel, by decide +kernel⟩, List.mem_of_getElem? (i := 585) (by decide +kernel), List.mem_of_getElem? (i := 865) (by decide +kernel), List.mem_of_getElem? (i := 866) (by decide +kernel)⟩
theorem lw_p55 : lw_okq (⟨"FrontDoorModel", "inState", "(I)I"⟩, 43) := ⟨⟨by decide +kernel, by decide +kernel⟩, List.mem_of_getElem? (i := 585) (by decide +kernel), List.mem_of_getElem? (i := 894) (by decide +kernel), List.mem_of_getElem? (i := 895) (by decide +kernel)⟩
def lw_privs_4 : List (MethodName × Nat) := [(⟨"FrontDoorModel", "answer", "(I)V"⟩, 43), (⟨"FrontDoorModel", "failure", "(I)V"⟩, 43), (⟨"FrontDoorModel", "outsNow", "(Z)I"⟩, 43), (⟨"FrontDoorModel", "isDue", "(I)Z"⟩, 43), (⟨"FrontDoorModel", "hedges", "(I)V"⟩, 43), (⟨"FrontDoorModel", "line", "()V"⟩, 43), (⟨"FrontDoorModel", "isAhead", "(II)Z"⟩, 43), (⟨"FrontDoorModel", "inState", "(I)I"⟩, 43)]
theorem lw_r4 : ∀ q ∈ lw_privs_4, lw_okq q := List.forall_mem_cons.mpr ⟨lw_p48, List.forall_mem_cons.mpr ⟨lw_p49, List.forall_mem_cons.mpr ⟨lw_p50, List.forall_mem_cons.mpr ⟨lw_p51, List.forall_mem_cons.mpr ⟨lw_p52, List.forall_mem_cons.mpr ⟨lw_p53, List.forall_mem_cons.mpr ⟨lw_p54, List.forall_mem_cons.mpr ⟨lw_p55, fun _ h => absurd h List.not_mem_nil⟩⟩⟩⟩⟩⟩⟩⟩
def lw_privs : List (MethodName × Nat) := lw_privs_1 ++ (lw_privs_2 ++ (lw_privs_3 ++ (lw_privs_4)))
def lw_tbl : List Cond := k2_sels lw_privs ++ tables_1
theorem lw_privs_ok : ∀ q ∈ lw_privs, lw_okq q := by
  show ∀ q ∈ lw_privs_1 ++ (lw_privs_2 ++ (lw_privs_3 ++ (lw_privs_4))), lw_okq q
  exact List.forall_mem_append.mpr ⟨lw_r1, List.forall_mem_append.mpr ⟨lw_r2, List.forall_mem_append.mpr ⟨lw_r3, lw_r4⟩⟩⟩
end
section
/-! ===== BEGIN words of one list among another's, by their places ===== -/
theorem goodIn_r {big : List Cond} (ws : List Cond) (ps : List Nat) (hp : ws = ps.filterMap (fun i => big[i]?)) (h : ws.all goodWord = true) : GoodIn big ws := by
  intro w hw
  have h1 := List.all_eq_true.mp h w hw
  rw [hp] at hw
  obtain ⟨i, -, hi⟩ := List.mem_filterMap.mp hw
  have hm : w ∈ big := by first | exact List.mem_of_getElem? hi | exact List.getElem?_mem hi
  exact ⟨hm, good_of_word h1⟩
theorem goodIn_app {big a b : List Cond} (ha : GoodIn big a) (hb : GoodIn big b) : GoodIn big (a ++ b) := fun w h => (List.mem_append.mp h).elim (ha w) (hb w)
theorem goodIn_ca {big a b : List Cond} {c : Cond} (ha : GoodIn big (c :: a)) (hb : GoodIn big b) : GoodIn big (c :: (a ++ b)) := fun w h => (List.mem_cons.mp h).elim (fun e => ha w (List.mem_cons.mpr (Or.inl e))) (fun h => (List.mem_append.mp h).elim (fun h => ha w (List.mem_cons.mpr (Or.inr h))) (hb w))
theorem goodIn_sub {big ws : List Cond} (hm : ∀ w ∈ ws, w ∈ big) (h : ws.all goodWord = true) : GoodIn big ws := fun w hw => ⟨hm w hw, good_of_word (List.all_eq_true.mp h w hw)⟩
/-! ===== END ===== -/

/-! ===== BEGIN printed: names, fields, word lists, decode rows ===== -/
def RX0 : String := "FrontDoor$Asking"
def TX0 : u_T := fun k => match k with
  | 0 => ("FrontDoor$Asking", "server", "LFrontDoor$Server;", true)
  | 1 => ("FrontDoor$Asking", "since", "I", true)
  | 2 => ("FrontDoor$Asking", "over", "I", true)
  | _ => ("FrontDoor$Asking", "fails", "Z", true)
def tyX0 : Nat → FieldType := fun k => match k with
  | 0 => .object "FrontDoor$Server"
  | 1 => .int
  | 2 => .int
  | _ => .boolean
abbrev wsX00 : List Cond := u_ws RX0 TX0 4
theorem nmX0 : ∀ a, a < 4 → ∀ b, b < 4 → a ≠ b → (TX0 a).2.1 ≠ (TX0 b).2.1 := by decide +kernel
theorem tyX0_ok : ∀ k, k < 4 → parseFieldDescriptor (TX0 k).2.2.1 = some (tyX0 k) := by decide +kernel
abbrev cX0_init : ByteArray := prog_2_method_1_code
def yX0_init : MethodName := ⟨RX0, "<init>", "(LFrontDoor$Server;IIZ)V"⟩
def RX1 : String := "FrontDoor$Call"
def TX1 : u_T := fun k => match k with
  | 0 => ("FrontDoor$Call", "number", "I", true)
  | 1 => ("FrontDoor$Call", "key", "I", true)
  | 2 => ("FrontDoor$Call", "grade", "I", true)
  | 3 => ("FrontDoor$Call", "came", "I", true)
  | 4 => ("FrontDoor$Call", "due", "I", true)
  | 5 => ("FrontDoor$Call", "safe", "Z", true)
  | 6 => ("FrontDoor$Call", "state", "I", false)
  | 7 => ("FrontDoor$Call", "tried", "I", false)
  | 8 => ("FrontDoor$Call", "ended", "I", false)
  | 9 => ("FrontDoor$Call", "answerer", "I", false)
  | 10 => ("FrontDoor$Call", "first", "LFrontDoor$Asking;", false)
  | _ => ("FrontDoor$Call", "second", "LFrontDoor$Asking;", false)
def tyX1 : Nat → FieldType := fun k => match k with
  | 0 => .int
  | 1 => .int
  | 2 => .int
  | 3 => .int
  | 4 => .int
  | 5 => .boolean
  | 6 => .int
  | 7 => .int
  | 8 => .int
  | 9 => .int
  | 10 => .object "FrontDoor$Asking"
  | _ => .object "FrontDoor$Asking"
abbrev wsX10 : List Cond := u_ws RX1 TX1 12
theorem nmX1 : ∀ a, a < 12 → ∀ b, b < 12 → a ≠ b → (TX1 a).2.1 ≠ (TX1 b).2.1 := by decide +kernel
theorem tyX1_ok : ∀ k, k < 12 → parseFieldDescriptor (TX1 k).2.2.1 = some (tyX1 k) := by decide +kernel
abbrev cX1_init : ByteArray := prog_3_method_1_code
def yX1_init : MethodName := ⟨RX1, "<init>", "(IIIIIZ)V"⟩
abbrev cX1_hasEnded : ByteArray := prog_3_method_2_code
def yX1_hasEnded : MethodName := ⟨RX1, "hasEnded", "()Z"⟩
abbrev cX1_goesAheadOf : ByteArray := prog_3_method_3_code
def yX1_goesAheadOf : MethodName := ⟨RX1, "goesAheadOf", "(LFrontDoor$Call;)Z"⟩
abbrev cX1_begin : ByteArray := prog_3_method_4_code
def yX1_begin : MethodName := ⟨RX1, "begin", "(LFrontDoor$Asking;)V"⟩
abbrev cX1_letGo : ByteArray := prog_3_method_5_code
def yX1_letGo : MethodName := ⟨RX1, "letGo", "(LFrontDoor$Asking;)V"⟩
abbrev cX1_callOffAll : ByteArray := prog_3_method_6_code
def yX1_callOffAll : MethodName := ⟨RX1, "callOffAll", "()V"⟩
abbrev cX1_tell : ByteArray := prog_3_method_7_code
def yX1_tell : MethodName := ⟨RX1, "tell", "(I)I"⟩
def RX2 : String := "FrontDoor$Server"
def TX2 : u_T := fun k => match k with
  | 0 => ("FrontDoor$Server", "number", "I", true)
  | 1 => ("FrontDoor$Server", "zone", "I", true)
  | 2 => ("FrontDoor$Server", "weight", "I", false)
  | 3 => ("FrontDoor$Server", "room", "I", false)
  | 4 => ("FrontDoor$Server", "pace", "I", false)
  | 5 => ("FrontDoor$Server", "breaks", "I", false)
  | 6 => ("FrontDoor$Server", "mute", "I", false)
  | 7 => ("FrontDoor$Server", "health", "I", false)
  | 8 => ("FrontDoor$Server", "open", "I", false)
  | 9 => ("FrontDoor$Server", "asked", "I", false)
  | 10 => ("FrontDoor$Server", "answers", "I", false)
  | 11 => ("FrontDoor$Server", "failures", "I", false)
  | 12 => ("FrontDoor$Server", "row", "I", false)
  | 13 => ("FrontDoor$Server", "until", "I", false)
  | 14 => ("FrontDoor$Server", "penalty", "I", false)
  | 15 => ("FrontDoor$Server", "outs", "I", false)
  | _ => ("FrontDoor$Server", "credit", "I", false)
def tyX2 : Nat → FieldType := fun k => match k with
  | 0 => .int
  | 1 => .int
  | 2 => .int
  | 3 => .int
  | 4 => .int
  | 5 => .int
  | 6 => .int
  | 7 => .int
  | 8 => .int
  | 9 => .int
  | 10 => .int
  | 11 => .int
  | 12 => .int
  | 13 => .int
  | 14 => .int
  | 15 => .int
  | _ => .int
abbrev wsX20 : List Cond := u_ws RX2 TX2 17
theorem nmX2 : ∀ a, a < 17 → ∀ b, b < 17 → a ≠ b → (TX2 a).2.1 ≠ (TX2 b).2.1 := by decide +kernel
theorem tyX2_ok : ∀ k, k < 17 → parseFieldDescriptor (TX2 k).2.2.1 = some (tyX2 k) := by decide +kernel
abbrev cX2_init : ByteArray := prog_4_method_1_code
def yX2_init : MethodName := ⟨RX2, "<init>", "(IIIIII)V"⟩
abbrev cX2_mayBeAsked : ByteArray := prog_4_method_2_code
def yX2_mayBeAsked : MethodName := ⟨RX2, "mayBeAsked", "(I)Z"⟩
abbrev cX2_placeOfMark : ByteArray := prog_4_method_3_code
def yX2_placeOfMark : MethodName := ⟨RX2, "placeOfMark", "(I)I"⟩
abbrev cX2_wayFrom : ByteArray := prog_4_method_4_code
def yX2_wayFrom : MethodName := ⟨RX2, "wayFrom", "(I)I"⟩
abbrev cX2_takeAsking : ByteArray := prog_4_method_5_code
def yX2_takeAsking : MethodName := ⟨RX2, "takeAsking", "(I)LFrontDoor$Asking;"⟩
abbrev cX2_answer : ByteArray := prog_4_method_6_code
def yX2_answer : MethodName := ⟨RX2, "answer", "()V"⟩
abbrev cX2_goOut : ByteArray := prog_4_method_7_code
def yX2_goOut : MethodName := ⟨RX2, "goOut", "(I)V"⟩
abbrev cX2_change : ByteArray := prog_4_method_8_code
def yX2_change : MethodName := ⟨RX2, "change", "(II)I"⟩
abbrev cX2_tell : ByteArray := prog_4_method_9_code
def yX2_tell : MethodName := ⟨RX2, "tell", "(I)I"⟩
def RX3 : String := "FrontDoor"
def TX3 : u_T := fun k => match k with
  | 0 => ("FrontDoor", "servers", "Ljava/util/ArrayList;", true)
  | 1 => ("FrontDoor", "calls", "Ljava/util/ArrayList;", true)
  | 2 => ("FrontDoor", "live", "Ljava/util/ArrayList;", true)
  | 3 => ("FrontDoor", "line", "Ljava/util/ArrayList;", true)
  | 4 => ("FrontDoor", "refusals", "[I", true)
  | 5 => ("FrontDoor", "tick", "I", false)
  | 6 => ("FrontDoor", "ruleNow", "I", false)
  | 7 => ("FrontDoor", "limitNow", "I", false)
  | 8 => ("FrontDoor", "budgetNow", "I", false)
  | 9 => ("FrontDoor", "hedgeNow", "I", false)
  | 10 => ("FrontDoor", "agains", "I", false)
  | 11 => ("FrontDoor", "seconds", "I", false)
  | _ => ("FrontDoor", "endedSoFar", "I", false)
def tyX3 : Nat → FieldType := fun k => match k with
  | 0 => .object "java/util/ArrayList"
  | 1 => .object "java/util/ArrayList"
  | 2 => .object "java/util/ArrayList"
  | 3 => .object "java/util/ArrayList"
  | 4 => .array .int
  | 5 => .int
  | 6 => .int
  | 7 => .int
  | 8 => .int
  | 9 => .int
  | 10 => .int
  | 11 => .int
  | _ => .int
abbrev wsX30 : List Cond := u_ws RX3 TX3 13
theorem nmX3 : ∀ a, a < 13 → ∀ b, b < 13 → a ≠ b → (TX3 a).2.1 ≠ (TX3 b).2.1 := by decide +kernel
theorem tyX3_ok : ∀ k, k < 13 → parseFieldDescriptor (TX3 k).2.2.1 = some (tyX3 k) := by decide +kernel
abbrev cX3_init : ByteArray := prog_1_method_1_code
def yX3_init : MethodName := ⟨RX3, "<init>", "()V"⟩
abbrev cX3_server : ByteArray := prog_1_method_2_code
def yX3_server : MethodName := ⟨RX3, "server", "(IIIII)I"⟩
abbrev cX3_set : ByteArray := prog_1_method_3_code
def yX3_set : MethodName := ⟨RX3, "set", "(III)I"⟩
abbrev cX3_drain : ByteArray := prog_1_method_4_code
def yX3_drain : MethodName := ⟨RX3, "drain", "(I)I"⟩
abbrev cX3_back : ByteArray := prog_1_method_5_code
def yX3_back : MethodName := ⟨RX3, "back", "(I)I"⟩
abbrev cX3_rule : ByteArray := prog_1_method_6_code
def yX3_rule : MethodName := ⟨RX3, "rule", "(I)I"⟩
abbrev cX3_limit : ByteArray := prog_1_method_7_code
def yX3_limit : MethodName := ⟨RX3, "limit", "(I)I"⟩
abbrev cX3_budget : ByteArray := prog_1_method_8_code
def yX3_budget : MethodName := ⟨RX3, "budget", "(I)I"⟩
abbrev cX3_hedge : ByteArray := prog_1_method_9_code
def yX3_hedge : MethodName := ⟨RX3, "hedge", "(I)I"⟩
abbrev cX3_call : ByteArray := prog_1_method_10_code
def yX3_call : MethodName := ⟨RX3, "call", "(IIIZ)I"⟩
abbrev cX3_off : ByteArray := prog_1_method_11_code
def yX3_off : MethodName := ⟨RX3, "off", "(I)I"⟩
abbrev cX3_ticks : ByteArray := prog_1_method_12_code
def yX3_ticks : MethodName := ⟨RX3, "ticks", "(I)I"⟩
abbrev cX3_pick : ByteArray := prog_1_method_13_code
def yX3_pick : MethodName := ⟨RX3, "pick", "(I)I"⟩
abbrev cX3_callOf : ByteArray := prog_1_method_14_code
def yX3_callOf : MethodName := ⟨RX3, "callOf", "(II)I"⟩
abbrev cX3_serverOf : ByteArray := prog_1_method_15_code
def yX3_serverOf : MethodName := ⟨RX3, "serverOf", "(II)I"⟩
abbrev cX3_mark : ByteArray := prog_1_method_16_code
def yX3_mark : MethodName := ⟨RX3, "mark", "(II)I"⟩
abbrev cX3_queue : ByteArray := prog_1_method_17_code
def yX3_queue : MethodName := ⟨RX3, "queue", "(I)I"⟩
abbrev cX3_share : ByteArray := prog_1_method_18_code
def yX3_share : MethodName := ⟨RX3, "share", "(I)I"⟩
abbrev cX3_count : ByteArray := prog_1_method_19_code
def yX3_count : MethodName := ⟨RX3, "count", "(I)I"⟩
abbrev cX3_serverAt : ByteArray := prog_1_method_20_code
def yX3_serverAt : MethodName := ⟨RX3, "serverAt", "(I)LFrontDoor$Server;"⟩
abbrev cX3_callAt : ByteArray := prog_1_method_21_code
def yX3_callAt : MethodName := ⟨RX3, "callAt", "(I)LFrontDoor$Call;"⟩
abbrev cX3_refuse : ByteArray := prog_1_method_22_code
def yX3_refuse : MethodName := ⟨RX3, "refuse", "(I)I"⟩
abbrev cX3_faultOf : ByteArray := prog_1_method_23_code
def yX3_faultOf : MethodName := ⟨RX3, "faultOf", "(III)I"⟩
abbrev cX3_leastOf : ByteArray := prog_1_method_24_code
def yX3_leastOf : MethodName := ⟨RX3, "leastOf", "(I)I"⟩
abbrev cX3_greatestOf : ByteArray := prog_1_method_25_code
def yX3_greatestOf : MethodName := ⟨RX3, "greatestOf", "(I)I"⟩
abbrev cX3_callsThatAre : ByteArray := prog_1_method_26_code
def yX3_callsThatAre : MethodName := ⟨RX3, "callsThatAre", "(I)I"⟩
abbrev cX3_askingsSoFar : ByteArray := prog_1_method_27_code
def yX3_askingsSoFar : MethodName := ⟨RX3, "askingsSoFar", "()I"⟩
abbrev cX3_openAskings : ByteArray := prog_1_method_28_code
def yX3_openAskings : MethodName := ⟨RX3, "openAskings", "()I"⟩
abbrev cX3_chosen : ByteArray := prog_1_method_29_code
def yX3_chosen : MethodName := ⟨RX3, "chosen", "(II)LFrontDoor$Server;"⟩
abbrev cX3_byTurn : ByteArray := prog_1_method_30_code
def yX3_byTurn : MethodName := ⟨RX3, "byTurn", "(I)LFrontDoor$Server;"⟩
abbrev cX3_byFewest : ByteArray := prog_1_method_31_code
def yX3_byFewest : MethodName := ⟨RX3, "byFewest", "(II)LFrontDoor$Server;"⟩
abbrev cX3_byRing : ByteArray := prog_1_method_32_code
def yX3_byRing : MethodName := ⟨RX3, "byRing", "(II)LFrontDoor$Server;"⟩
abbrev cX3_settleCredits : ByteArray := prog_1_method_33_code
def yX3_settleCredits : MethodName := ⟨RX3, "settleCredits", "(ILFrontDoor$Server;)V"⟩
abbrev cX3_askByRule : ByteArray := prog_1_method_34_code
def yX3_askByRule : MethodName := ⟨RX3, "askByRule", "(LFrontDoor$Call;)Z"⟩
abbrev cX3_joinLine : ByteArray := prog_1_method_35_code
def yX3_joinLine : MethodName := ⟨RX3, "joinLine", "(LFrontDoor$Call;)V"⟩
abbrev cX3_leaveLine : ByteArray := prog_1_method_36_code
def yX3_leaveLine : MethodName := ⟨RX3, "leaveLine", "(LFrontDoor$Call;)V"⟩
abbrev cX3_end : ByteArray := prog_1_method_37_code
def yX3_end : MethodName := ⟨RX3, "end", "(LFrontDoor$Call;I)V"⟩
abbrev cX3_dropEnded : ByteArray := prog_1_method_38_code
def yX3_dropEnded : MethodName := ⟨RX3, "dropEnded", "()V"⟩
abbrev cX3_passTick : ByteArray := prog_1_method_39_code
def yX3_passTick : MethodName := ⟨RX3, "passTick", "()V"⟩
abbrev cX3_takeWhatIsOver : ByteArray := prog_1_method_40_code
def yX3_takeWhatIsOver : MethodName := ⟨RX3, "takeWhatIsOver", "()V"⟩
abbrev cX3_takeAnswer : ByteArray := prog_1_method_41_code
def yX3_takeAnswer : MethodName := ⟨RX3, "takeAnswer", "(LFrontDoor$Call;LFrontDoor$Asking;)V"⟩
abbrev cX3_budgetHolds : ByteArray := prog_1_method_42_code
def yX3_budgetHolds : MethodName := ⟨RX3, "budgetHolds", "()Z"⟩
abbrev cX3_failureOf : ByteArray := prog_1_method_43_code
def yX3_failureOf : MethodName := ⟨RX3, "failureOf", "(LFrontDoor$Server;)V"⟩
abbrev cX3_oneMoreOutIsTooMany : ByteArray := prog_1_method_44_code
def yX3_oneMoreOutIsTooMany : MethodName := ⟨RX3, "oneMoreOutIsTooMany", "()Z"⟩
abbrev cX3_meetDues : ByteArray := prog_1_method_45_code
def yX3_meetDues : MethodName := ⟨RX3, "meetDues", "()V"⟩
abbrev cX3_failByDue : ByteArray := prog_1_method_46_code
def yX3_failByDue : MethodName := ⟨RX3, "failByDue", "(LFrontDoor$Call;)V"⟩
abbrev cX3_tryThoseOut : ByteArray := prog_1_method_47_code
def yX3_tryThoseOut : MethodName := ⟨RX3, "tryThoseOut", "()V"⟩
abbrev cX3_hedgeSlow : ByteArray := prog_1_method_48_code
def yX3_hedgeSlow : MethodName := ⟨RX3, "hedgeSlow", "()V"⟩
abbrev cX3_askQueued : ByteArray := prog_1_method_49_code
def yX3_askQueued : MethodName := ⟨RX3, "askQueued", "()V"⟩
abbrev cX3_letDrainedGo : ByteArray := prog_1_method_50_code
def yX3_letDrainedGo : MethodName := ⟨RX3, "letDrainedGo", "()V"⟩
def RX4 : String := "FrontDoorModel"
def TX4 : u_T := fun k => match k with
  | 0 => ("FrontDoorModel", "refusals", "[I", true)
  | 1 => ("FrontDoorModel", "tick", "I", false)
  | 2 => ("FrontDoorModel", "servers", "I", false)
  | 3 => ("FrontDoorModel", "calls", "I", false)
  | 4 => ("FrontDoorModel", "rule", "I", false)
  | 5 => ("FrontDoorModel", "limit", "I", false)
  | 6 => ("FrontDoorModel", "budget", "I", false)
  | 7 => ("FrontDoorModel", "hedge", "I", false)
  | 8 => ("FrontDoorModel", "askings", "I", false)
  | 9 => ("FrontDoorModel", "agains", "I", false)
  | 10 => ("FrontDoorModel", "seconds", "I", false)
  | 11 => ("FrontDoorModel", "weight", "[I", true)
  | 12 => ("FrontDoorModel", "zone", "[I", true)
  | 13 => ("FrontDoorModel", "room", "[I", true)
  | 14 => ("FrontDoorModel", "pace", "[I", true)
  | 15 => ("FrontDoorModel", "breaks", "[I", true)
  | 16 => ("FrontDoorModel", "mute", "[I", true)
  | 17 => ("FrontDoorModel", "health", "[I", true)
  | 18 => ("FrontDoorModel", "open", "[I", true)
  | 19 => ("FrontDoorModel", "asked", "[I", true)
  | 20 => ("FrontDoorModel", "answers", "[I", true)
  | 21 => ("FrontDoorModel", "failures", "[I", true)
  | 22 => ("FrontDoorModel", "row", "[I", true)
  | 23 => ("FrontDoorModel", "until", "[I", true)
  | 24 => ("FrontDoorModel", "penalty", "[I", true)
  | 25 => ("FrontDoorModel", "outs", "[I", true)
  | 26 => ("FrontDoorModel", "credit", "[I", true)
  | 27 => ("FrontDoorModel", "key", "[I", true)
  | 28 => ("FrontDoorModel", "grade", "[I", true)
  | 29 => ("FrontDoorModel", "due", "[I", true)
  | 30 => ("FrontDoorModel", "state", "[I", true)
  | 31 => ("FrontDoorModel", "asks", "[I", true)
  | 32 => ("FrontDoorModel", "tried", "[I", true)
  | 33 => ("FrontDoorModel", "came", "[I", true)
  | 34 => ("FrontDoorModel", "ended", "[I", true)
  | 35 => ("FrontDoorModel", "by", "[I", true)
  | 36 => ("FrontDoorModel", "safe", "[Z", true)
  | 37 => ("FrontDoorModel", "at", "[I", true)
  | 38 => ("FrontDoorModel", "since", "[I", true)
  | 39 => ("FrontDoorModel", "over", "[I", true)
  | 40 => ("FrontDoorModel", "fails", "[Z", true)
  | 41 => ("FrontDoorModel", "queue", "[I", true)
  | _ => ("FrontDoorModel", "queued", "I", false)
def tyX4 : Nat → FieldType := fun k => match k with
  | 0 => .array .int
  | 1 => .int
  | 2 => .int
  | 3 => .int
  | 4 => .int
  | 5 => .int
  | 6 => .int
  | 7 => .int
  | 8 => .int
  | 9 => .int
  | 10 => .int
  | 11 => .array .int
  | 12 => .array .int
  | 13 => .array .int
  | 14 => .array .int
  | 15 => .array .int
  | 16 => .array .int
  | 17 => .array .int
  | 18 => .array .int
  | 19 => .array .int
  | 20 => .array .int
  | 21 => .array .int
  | 22 => .array .int
  | 23 => .array .int
  | 24 => .array .int
  | 25 => .array .int
  | 26 => .array .int
  | 27 => .array .int
  | 28 => .array .int
  | 29 => .array .int
  | 30 => .array .int
  | 31 => .array .int
  | 32 => .array .int
  | 33 => .array .int
  | 34 => .array .int
  | 35 => .array .int
  | 36 => .array .boolean
  | 37 => .array .int
  | 38 => .array .int
  | 39 => .array .int
  | 40 => .array .boolean
  | 41 => .array .int
  | _ => .int
abbrev wsX40 : List Cond := u_ws RX4 TX4 43
theorem nmX4 : ∀ a, a < 43 → ∀ b, b < 43 → a ≠ b → (TX4 a).2.1 ≠ (TX4 b).2.1 := by decide +kernel
theorem tyX4_ok : ∀ k, k < 43 → parseFieldDescriptor (TX4 k).2.2.1 = some (tyX4 k) := by decide +kernel
abbrev cX4_init : ByteArray := prog_6_method_1_code
def yX4_init : MethodName := ⟨RX4, "<init>", "()V"⟩
abbrev cX4_refuse : ByteArray := prog_6_method_2_code
def yX4_refuse : MethodName := ⟨RX4, "refuse", "(I)I"⟩
abbrev cX4_isIn : ByteArray := prog_6_method_3_code
def yX4_isIn : MethodName := ⟨RX4, "isIn", "(II)Z"⟩
abbrev cX4_isServer : ByteArray := prog_6_method_4_code
def yX4_isServer : MethodName := ⟨RX4, "isServer", "(I)Z"⟩
abbrev cX4_isCall : ByteArray := prog_6_method_5_code
def yX4_isCall : MethodName := ⟨RX4, "isCall", "(I)Z"⟩
abbrev cX4_server : ByteArray := prog_6_method_6_code
def yX4_server : MethodName := ⟨RX4, "server", "(IIIII)I"⟩
abbrev cX4_set : ByteArray := prog_6_method_7_code
def yX4_set : MethodName := ⟨RX4, "set", "(III)I"⟩
abbrev cX4_drain : ByteArray := prog_6_method_8_code
def yX4_drain : MethodName := ⟨RX4, "drain", "(I)I"⟩
abbrev cX4_back : ByteArray := prog_6_method_9_code
def yX4_back : MethodName := ⟨RX4, "back", "(I)I"⟩
abbrev cX4_rule : ByteArray := prog_6_method_10_code
def yX4_rule : MethodName := ⟨RX4, "rule", "(I)I"⟩
abbrev cX4_limit : ByteArray := prog_6_method_11_code
def yX4_limit : MethodName := ⟨RX4, "limit", "(I)I"⟩
abbrev cX4_budget : ByteArray := prog_6_method_12_code
def yX4_budget : MethodName := ⟨RX4, "budget", "(I)I"⟩
abbrev cX4_hedge : ByteArray := prog_6_method_13_code
def yX4_hedge : MethodName := ⟨RX4, "hedge", "(I)I"⟩
abbrev cX4_mays : ByteArray := prog_6_method_14_code
def yX4_mays : MethodName := ⟨RX4, "mays", "(I)I"⟩
abbrev cX4_fewest : ByteArray := prog_6_method_15_code
def yX4_fewest : MethodName := ⟨RX4, "fewest", "(I)I"⟩
abbrev cX4_markOf : ByteArray := prog_6_method_16_code
def yX4_markOf : MethodName := ⟨RX4, "markOf", "(II)I"⟩
abbrev cX4_onRing : ByteArray := prog_6_method_17_code
def yX4_onRing : MethodName := ⟨RX4, "onRing", "(II)I"⟩
abbrev cX4_near : ByteArray := prog_6_method_18_code
def yX4_near : MethodName := ⟨RX4, "near", "(II)I"⟩
abbrev cX4_byTurns : ByteArray := prog_6_method_19_code
def yX4_byTurns : MethodName := ⟨RX4, "byTurns", "(IZ)I"⟩
abbrev cX4_picked : ByteArray := prog_6_method_20_code
def yX4_picked : MethodName := ⟨RX4, "picked", "(IIZ)I"⟩
abbrev cX4_ask : ByteArray := prog_6_method_21_code
def yX4_ask : MethodName := ⟨RX4, "ask", "(II)V"⟩
abbrev cX4_asksFor : ByteArray := prog_6_method_22_code
def yX4_asksFor : MethodName := ⟨RX4, "asksFor", "(I)Z"⟩
abbrev cX4_call : ByteArray := prog_6_method_23_code
def yX4_call : MethodName := ⟨RX4, "call", "(IIIZ)I"⟩
abbrev cX4_outsNow : ByteArray := prog_6_method_24_code
def yX4_outsNow : MethodName := ⟨RX4, "outsNow", "(Z)I"⟩
abbrev cX4_failure : ByteArray := prog_6_method_25_code
def yX4_failure : MethodName := ⟨RX4, "failure", "(I)V"⟩
abbrev cX4_answer : ByteArray := prog_6_method_26_code
def yX4_answer : MethodName := ⟨RX4, "answer", "(I)V"⟩
abbrev cX4_takes : ByteArray := prog_6_method_27_code
def yX4_takes : MethodName := ⟨RX4, "takes", "(II)V"⟩
abbrev cX4_ends : ByteArray := prog_6_method_28_code
def yX4_ends : MethodName := ⟨RX4, "ends", "(II)V"⟩
abbrev cX4_off : ByteArray := prog_6_method_29_code
def yX4_off : MethodName := ⟨RX4, "off", "(I)I"⟩
abbrev cX4_comesBack : ByteArray := prog_6_method_30_code
def yX4_comesBack : MethodName := ⟨RX4, "comesBack", "(I)Z"⟩
abbrev cX4_isDue : ByteArray := prog_6_method_31_code
def yX4_isDue : MethodName := ⟨RX4, "isDue", "(I)Z"⟩
abbrev cX4_hedges : ByteArray := prog_6_method_32_code
def yX4_hedges : MethodName := ⟨RX4, "hedges", "(I)V"⟩
abbrev cX4_isAhead : ByteArray := prog_6_method_33_code
def yX4_isAhead : MethodName := ⟨RX4, "isAhead", "(II)Z"⟩
abbrev cX4_line : ByteArray := prog_6_method_34_code
def yX4_line : MethodName := ⟨RX4, "line", "()V"⟩
abbrev cX4_goesOn : ByteArray := prog_6_method_35_code
def yX4_goesOn : MethodName := ⟨RX4, "goesOn", "()I"⟩
abbrev cX4_ticks : ByteArray := prog_6_method_36_code
def yX4_ticks : MethodName := ⟨RX4, "ticks", "(I)I"⟩
abbrev cX4_pick : ByteArray := prog_6_method_37_code
def yX4_pick : MethodName := ⟨RX4, "pick", "(I)I"⟩
abbrev cX4_callOf : ByteArray := prog_6_method_38_code
def yX4_callOf : MethodName := ⟨RX4, "callOf", "(II)I"⟩
abbrev cX4_serverOf : ByteArray := prog_6_method_39_code
def yX4_serverOf : MethodName := ⟨RX4, "serverOf", "(II)I"⟩
abbrev cX4_mark : ByteArray := prog_6_method_40_code
def yX4_mark : MethodName := ⟨RX4, "mark", "(II)I"⟩
abbrev cX4_queue : ByteArray := prog_6_method_41_code
def yX4_queue : MethodName := ⟨RX4, "queue", "(I)I"⟩
abbrev cX4_share : ByteArray := prog_6_method_42_code
def yX4_share : MethodName := ⟨RX4, "share", "(I)I"⟩
abbrev cX4_inState : ByteArray := prog_6_method_43_code
def yX4_inState : MethodName := ⟨RX4, "inState", "(I)I"⟩
abbrev cX4_count : ByteArray := prog_6_method_44_code
def yX4_count : MethodName := ⟨RX4, "count", "(I)I"⟩
def RJx145de : String := "java/io/Serializable"
def TJx145de : u_T := fun k => match k with
  | _ => ("", "", "", false)
def tyJx145de : Nat → FieldType := fun k => match k with
  | _ => .int
abbrev wsJx145de0 : List Cond := u_ws RJx145de TJx145de 0
theorem nmJx145de : ∀ a, a < 0 → ∀ b, b < 0 → a ≠ b → (TJx145de a).2.1 ≠ (TJx145de b).2.1 := by decide +kernel
theorem tyJx145de_ok : ∀ k, k < 0 → parseFieldDescriptor (TJx145de k).2.2.1 = some (tyJx145de k) := by decide +kernel
def RJx8e188 : String := "java/lang/Cloneable"
def TJx8e188 : u_T := fun k => match k with
  | _ => ("", "", "", false)
def tyJx8e188 : Nat → FieldType := fun k => match k with
  | _ => .int
abbrev wsJx8e1880 : List Cond := u_ws RJx8e188 TJx8e188 0
theorem nmJx8e188 : ∀ a, a < 0 → ∀ b, b < 0 → a ≠ b → (TJx8e188 a).2.1 ≠ (TJx8e188 b).2.1 := by decide +kernel
theorem tyJx8e188_ok : ∀ k, k < 0 → parseFieldDescriptor (TJx8e188 k).2.2.1 = some (tyJx8e188 k) := by decide +kernel
def RJxab1ab : String := "java/lang/Iterable"
def TJxab1ab : u_T := fun k => match k with
  | _ => ("", "", "", false)
def tyJxab1ab : Nat → FieldType := fun k => match k with
  | _ => .int
abbrev wsJxab1ab0 : List Cond := u_ws RJxab1ab TJxab1ab 0
theorem nmJxab1ab : ∀ a, a < 0 → ∀ b, b < 0 → a ≠ b → (TJxab1ab a).2.1 ≠ (TJxab1ab b).2.1 := by decide +kernel
theorem tyJxab1ab_ok : ∀ k, k < 0 → parseFieldDescriptor (TJxab1ab k).2.2.1 = some (tyJxab1ab k) := by decide +kernel
def RJ9 : String := "java/lang/Math"
def TJ9 : u_T := fun k => match k with
  | _ => ("", "", "", false)
def tyJ9 : Nat → FieldType := fun k => match k with
  | _ => .int
abbrev wsJ90 : List Cond := u_ws RJ9 TJ9 0
theorem nmJ9 : ∀ a, a < 0 → ∀ b, b < 0 → a ≠ b → (TJ9 a).2.1 ≠ (TJ9 b).2.1 := by decide +kernel
theorem tyJ9_ok : ∀ k, k < 0 → parseFieldDescriptor (TJ9 k).2.2.1 = some (tyJ9 k) := by decide +kernel
abbrev cJ9_max_7cf53 : ByteArray := prog_10_method_65_code
def yJ9_max_7cf53 : MethodName := ⟨RJ9, "max", "(II)I"⟩
abbrev cJ9_min_7cf53 : ByteArray := prog_10_method_69_code
def yJ9_min_7cf53 : MethodName := ⟨RJ9, "min", "(II)I"⟩
def RJ10 : String := "java/lang/System"
def TJ10 : u_T := fun k => match k with
  | _ => ("", "", "", false)
def tyJ10 : Nat → FieldType := fun k => match k with
  | _ => .int
abbrev wsJ100 : List Cond := u_ws RJ10 TJ10 0
theorem nmJ10 : ∀ a, a < 0 → ∀ b, b < 0 → a ≠ b → (TJ10 a).2.1 ≠ (TJ10 b).2.1 := by decide +kernel
theorem tyJ10_ok : ∀ k, k < 0 → parseFieldDescriptor (TJ10 k).2.2.1 = some (tyJ10 k) := by decide +kernel
def RJxa1e45 : String := "java/util/AbstractCollection"
def TJxa1e45 : u_T := fun k => match k with
  | _ => ("", "", "", false)
def tyJxa1e45 : Nat → FieldType := fun k => match k with
  | _ => .int
abbrev wsJxa1e450 : List Cond := u_ws RJxa1e45 TJxa1e45 0
theorem nmJxa1e45 : ∀ a, a < 0 → ∀ b, b < 0 → a ≠ b → (TJxa1e45 a).2.1 ≠ (TJxa1e45 b).2.1 := by decide +kernel
theorem tyJxa1e45_ok : ∀ k, k < 0 → parseFieldDescriptor (TJxa1e45 k).2.2.1 = some (tyJxa1e45 k) := by decide +kernel
abbrev cJxa1e45_init_da8c8 : ByteArray := prog_12_method_1_code
def yJxa1e45_init_da8c8 : MethodName := ⟨RJxa1e45, "<init>", "()V"⟩
def RJxc12de : String := "java/util/AbstractList"
def TJxc12de : u_T := fun k => match k with
  | _ => ("", "", "", false)
def tyJxc12de : Nat → FieldType := fun k => match k with
  | _ => .int
abbrev wsJxc12de0 : List Cond := u_ws RJxc12de TJxc12de 0
theorem nmJxc12de : ∀ a, a < 0 → ∀ b, b < 0 → a ≠ b → (TJxc12de a).2.1 ≠ (TJxc12de b).2.1 := by decide +kernel
theorem tyJxc12de_ok : ∀ k, k < 0 → parseFieldDescriptor (TJxc12de k).2.2.1 = some (tyJxc12de k) := by decide +kernel
abbrev cJxc12de_init_da8c8 : ByteArray := prog_13_method_1_code
def yJxc12de_init_da8c8 : MethodName := ⟨RJxc12de, "<init>", "()V"⟩
def RJx4a65c : String := "java/util/ArrayList"
def TJx4a65c : u_T := fun k => match k with
  | 0 => ("java/util/AbstractList", "modCount", "I", false)
  | 1 => ("java/util/ArrayList", "elementData", "[Ljava/lang/Object;", false)
  | _ => ("java/util/ArrayList", "size", "I", false)
def tyJx4a65c : Nat → FieldType := fun k => match k with
  | 0 => .int
  | 1 => .array (.object "java/lang/Object")
  | _ => .int
abbrev wsJx4a65c0 : List Cond := u_ws RJx4a65c TJx4a65c 3
theorem nmJx4a65c : ∀ a, a < 3 → ∀ b, b < 3 → a ≠ b → (TJx4a65c a).2.1 ≠ (TJx4a65c b).2.1 := by decide +kernel
theorem tyJx4a65c_ok : ∀ k, k < 3 → parseFieldDescriptor (TJx4a65c k).2.2.1 = some (tyJx4a65c k) := by decide +kernel
abbrev cJx4a65c_init_da8c8 : ByteArray := prog_14_method_2_code
def yJx4a65c_init_da8c8 : MethodName := ⟨RJx4a65c, "<init>", "()V"⟩
abbrev cJx4a65c_grow_92f84 : ByteArray := prog_14_method_6_code
def yJx4a65c_grow_92f84 : MethodName := ⟨RJx4a65c, "grow", "(I)[Ljava/lang/Object;"⟩
abbrev cJx4a65c_grow_d5877 : ByteArray := prog_14_method_7_code
def yJx4a65c_grow_d5877 : MethodName := ⟨RJx4a65c, "grow", "()[Ljava/lang/Object;"⟩
abbrev cJx4a65c_size_8abf5 : ByteArray := prog_14_method_8_code
def yJx4a65c_size_8abf5 : MethodName := ⟨RJx4a65c, "size", "()I"⟩
abbrev cJx4a65c_elementData_915e3 : ByteArray := prog_14_method_18_code
def yJx4a65c_elementData_915e3 : MethodName := ⟨RJx4a65c, "elementData", "(I)Ljava/lang/Object;"⟩
abbrev cJx4a65c_get_915e3 : ByteArray := prog_14_method_20_code
def yJx4a65c_get_915e3 : MethodName := ⟨RJx4a65c, "get", "(I)Ljava/lang/Object;"⟩
abbrev cJx4a65c_add_72be8 : ByteArray := prog_14_method_24_code
def yJx4a65c_add_72be8 : MethodName := ⟨RJx4a65c, "add", "(Ljava/lang/Object;[Ljava/lang/Object;I)V"⟩
abbrev cJx4a65c_add_9ea2d : ByteArray := prog_14_method_25_code
def yJx4a65c_add_9ea2d : MethodName := ⟨RJx4a65c, "add", "(Ljava/lang/Object;)Z"⟩
abbrev cJx4a65c_add_7a177 : ByteArray := prog_14_method_26_code
def yJx4a65c_add_7a177 : MethodName := ⟨RJx4a65c, "add", "(ILjava/lang/Object;)V"⟩
abbrev cJx4a65c_remove_915e3 : ByteArray := prog_14_method_29_code
def yJx4a65c_remove_915e3 : MethodName := ⟨RJx4a65c, "remove", "(I)Ljava/lang/Object;"⟩
abbrev cJx4a65c_fastRemove_b59b0 : ByteArray := prog_14_method_39_code
def yJx4a65c_fastRemove_b59b0 : MethodName := ⟨RJx4a65c, "fastRemove", "([Ljava/lang/Object;I)V"⟩
abbrev cJx4a65c_rangeCheckForAdd_d00df : ByteArray := prog_14_method_45_code
def yJx4a65c_rangeCheckForAdd_d00df : MethodName := ⟨RJx4a65c, "rangeCheckForAdd", "(I)V"⟩
def RJ7 : String := "java/util/Arrays"
def TJ7 : u_T := fun k => match k with
  | _ => ("", "", "", false)
def tyJ7 : Nat → FieldType := fun k => match k with
  | _ => .int
abbrev wsJ70 : List Cond := u_ws RJ7 TJ7 0
theorem nmJ7 : ∀ a, a < 0 → ∀ b, b < 0 → a ≠ b → (TJ7 a).2.1 ≠ (TJ7 b).2.1 := by decide +kernel
theorem tyJ7_ok : ∀ k, k < 0 → parseFieldDescriptor (TJ7 k).2.2.1 = some (tyJ7 k) := by decide +kernel
abbrev cJ7_copyOf_1904c : ByteArray := prog_15_method_119_code
def yJ7_copyOf_1904c : MethodName := ⟨RJ7, "copyOf", "([Ljava/lang/Object;I)[Ljava/lang/Object;"⟩
abbrev cJ7_copyOf_6403c : ByteArray := prog_15_method_120_code
def yJ7_copyOf_6403c : MethodName := ⟨RJ7, "copyOf", "([Ljava/lang/Object;ILjava/lang/Class;)[Ljava/lang/Object;"⟩
def RJx5ef63 : String := "java/util/Collection"
def TJx5ef63 : u_T := fun k => match k with
  | _ => ("", "", "", false)
def tyJx5ef63 : Nat → FieldType := fun k => match k with
  | _ => .int
abbrev wsJx5ef630 : List Cond := u_ws RJx5ef63 TJx5ef63 0
theorem nmJx5ef63 : ∀ a, a < 0 → ∀ b, b < 0 → a ≠ b → (TJx5ef63 a).2.1 ≠ (TJx5ef63 b).2.1 := by decide +kernel
theorem tyJx5ef63_ok : ∀ k, k < 0 → parseFieldDescriptor (TJx5ef63 k).2.2.1 = some (tyJx5ef63 k) := by decide +kernel
def RJxbd725 : String := "java/util/List"
def TJxbd725 : u_T := fun k => match k with
  | _ => ("", "", "", false)
def tyJxbd725 : Nat → FieldType := fun k => match k with
  | _ => .int
abbrev wsJxbd7250 : List Cond := u_ws RJxbd725 TJxbd725 0
theorem nmJxbd725 : ∀ a, a < 0 → ∀ b, b < 0 → a ≠ b → (TJxbd725 a).2.1 ≠ (TJxbd725 b).2.1 := by decide +kernel
theorem tyJxbd725_ok : ∀ k, k < 0 → parseFieldDescriptor (TJxbd725 k).2.2.1 = some (tyJxbd725 k) := by decide +kernel
def RJ15 : String := "java/util/Objects"
def TJ15 : u_T := fun k => match k with
  | _ => ("", "", "", false)
def tyJ15 : Nat → FieldType := fun k => match k with
  | _ => .int
abbrev wsJ150 : List Cond := u_ws RJ15 TJ15 0
theorem nmJ15 : ∀ a, a < 0 → ∀ b, b < 0 → a ≠ b → (TJ15 a).2.1 ≠ (TJ15 b).2.1 := by decide +kernel
theorem tyJ15_ok : ∀ k, k < 0 → parseFieldDescriptor (TJ15 k).2.2.1 = some (tyJ15 k) := by decide +kernel
abbrev cJ15_checkIndex_7cf53 : ByteArray := prog_18_method_17_code
def yJ15_checkIndex_7cf53 : MethodName := ⟨RJ15, "checkIndex", "(II)I"⟩
def RJxf0a74 : String := "java/util/RandomAccess"
def TJxf0a74 : u_T := fun k => match k with
  | _ => ("", "", "", false)
def tyJxf0a74 : Nat → FieldType := fun k => match k with
  | _ => .int
abbrev wsJxf0a740 : List Cond := u_ws RJxf0a74 TJxf0a74 0
theorem nmJxf0a74 : ∀ a, a < 0 → ∀ b, b < 0 → a ≠ b → (TJxf0a74 a).2.1 ≠ (TJxf0a74 b).2.1 := by decide +kernel
theorem tyJxf0a74_ok : ∀ k, k < 0 → parseFieldDescriptor (TJxf0a74 k).2.2.1 = some (tyJxf0a74 k) := by decide +kernel
def RJxa66e6 : String := "java/util/SequencedCollection"
def TJxa66e6 : u_T := fun k => match k with
  | _ => ("", "", "", false)
def tyJxa66e6 : Nat → FieldType := fun k => match k with
  | _ => .int
abbrev wsJxa66e60 : List Cond := u_ws RJxa66e6 TJxa66e6 0
theorem nmJxa66e6 : ∀ a, a < 0 → ∀ b, b < 0 → a ≠ b → (TJxa66e6 a).2.1 ≠ (TJxa66e6 b).2.1 := by decide +kernel
theorem tyJxa66e6_ok : ∀ k, k < 0 → parseFieldDescriptor (TJxa66e6 k).2.2.1 = some (tyJxa66e6 k) := by decide +kernel
def RJ8 : String := "jdk/internal/util/ArraysSupport"
def TJ8 : u_T := fun k => match k with
  | _ => ("", "", "", false)
def tyJ8 : Nat → FieldType := fun k => match k with
  | _ => .int
abbrev wsJ80 : List Cond := u_ws RJ8 TJ8 0
theorem nmJ8 : ∀ a, a < 0 → ∀ b, b < 0 → a ≠ b → (TJ8 a).2.1 ≠ (TJ8 b).2.1 := by decide +kernel
theorem tyJ8_ok : ∀ k, k < 0 → parseFieldDescriptor (TJ8 k).2.2.1 = some (tyJ8 k) := by decide +kernel
abbrev cJ8_newLength_cabcc : ByteArray := prog_21_method_27_code
def yJ8_newLength_cabcc : MethodName := ⟨RJ8, "newLength", "(III)I"⟩
abbrev cJ8_hugeLength_7cf53 : ByteArray := prog_21_method_28_code
def yJ8_hugeLength_7cf53 : MethodName := ⟨RJ8, "hugeLength", "(II)I"⟩
def RJ3 : String := "jdk/internal/util/Preconditions"
def TJ3 : u_T := fun k => match k with
  | _ => ("", "", "", false)
def tyJ3 : Nat → FieldType := fun k => match k with
  | _ => .int
abbrev wsJ30 : List Cond := u_ws RJ3 TJ3 0
theorem nmJ3 : ∀ a, a < 0 → ∀ b, b < 0 → a ≠ b → (TJ3 a).2.1 ≠ (TJ3 b).2.1 := by decide +kernel
theorem tyJ3_ok : ∀ k, k < 0 → parseFieldDescriptor (TJ3 k).2.2.1 = some (tyJ3 k) := by decide +kernel
abbrev cJ3_checkIndex_8e157 : ByteArray := prog_22_method_11_code
def yJ3_checkIndex_8e157 : MethodName := ⟨RJ3, "checkIndex", "(IILjava/util/function/BiFunction;)I"⟩
def RL : String := "FrontDoorLaw"
abbrev cL_law : ByteArray := code
def yL_law : MethodName := ⟨RL, "law", "([I)Z"⟩
def wsX0_init : List Cond := .code yX0_init cX0_init 5 none :: ([.methodLink RX0 1 objectInit, .instanceMethod objectInit, .code objectInit ⟨#[0xb1]⟩ 1 none, .fieldLink RX0 7 "FrontDoor$Asking" "server" "LFrontDoor$Server;", .fieldLink RX0 13 "FrontDoor$Asking" "since" "I", .fieldLink RX0 17 "FrontDoor$Asking" "over" "I", .fieldLink RX0 20 "FrontDoor$Asking" "fails" "Z"] ++ wsX00)
def wsX1_init : List Cond := .code yX1_init cX1_init 7 none :: ([.methodLink RX1 3 objectInit, .instanceMethod objectInit, .code objectInit ⟨#[0xb1]⟩ 1 none, .fieldLink RX1 9 "FrontDoor$Call" "number" "I", .fieldLink RX1 15 "FrontDoor$Call" "key" "I", .fieldLink RX1 18 "FrontDoor$Call" "grade" "I", .fieldLink RX1 21 "FrontDoor$Call" "came" "I", .fieldLink RX1 24 "FrontDoor$Call" "due" "I", .fieldLink RX1 27 "FrontDoor$Call" "safe" "Z", .fieldLink RX1 31 "FrontDoor$Call" "state" "I", .fieldLink RX1 34 "FrontDoor$Call" "ended" "I", .fieldLink RX1 37 "FrontDoor$Call" "answerer" "I"] ++ wsX10)
def wsX1_hasEnded : List Cond := .code yX1_hasEnded cX1_hasEnded 1 (some .boolean) :: ([.fieldLink RX1 31 "FrontDoor$Call" "state" "I"] ++ wsX10)
def wsX1_goesAheadOf : List Cond := .code yX1_goesAheadOf cX1_goesAheadOf 2 (some .boolean) :: ([.fieldLink RX1 18 "FrontDoor$Call" "grade" "I", .fieldLink RX1 24 "FrontDoor$Call" "due" "I", .fieldLink RX1 9 "FrontDoor$Call" "number" "I"] ++ wsX10)
def wsX1_begin : List Cond := .code yX1_begin cX1_begin 2 none :: ([.fieldLink RX1 40 "FrontDoor$Call" "first" "LFrontDoor$Asking;", .fieldLink RX1 44 "FrontDoor$Call" "second" "LFrontDoor$Asking;", .fieldLink RX1 47 "FrontDoor$Call" "tried" "I", .fieldLink RX1 50 "FrontDoor$Asking" "server" "LFrontDoor$Server;", .fieldLink RX1 56 "FrontDoor$Server" "number" "I", .fieldLink RX1 31 "FrontDoor$Call" "state" "I"] ++ wsX10 ++ wsX00 ++ wsX20)
def wsX1_letGo : List Cond := .code yX1_letGo cX1_letGo 2 none :: ([.fieldLink RX1 50 "FrontDoor$Asking" "server" "LFrontDoor$Server;", .fieldLink RX1 59 "FrontDoor$Server" "open" "I", .fieldLink RX1 40 "FrontDoor$Call" "first" "LFrontDoor$Asking;", .fieldLink RX1 44 "FrontDoor$Call" "second" "LFrontDoor$Asking;"] ++ wsX00 ++ wsX20 ++ wsX10)
def wsX1_callOffAll : List Cond := .code yX1_callOffAll cX1_callOffAll 1 none :: ([.fieldLink RX1 44 "FrontDoor$Call" "second" "LFrontDoor$Asking;", .fieldLink RX1 40 "FrontDoor$Call" "first" "LFrontDoor$Asking;", .methodLink RX1 62 yX1_letGo, .instanceMethod yX1_letGo, .selects RX1 yX1_letGo yX1_letGo, .initialized RX1, .code yX1_letGo cX1_letGo 2 none, .fieldLink RX1 50 "FrontDoor$Asking" "server" "LFrontDoor$Server;", .fieldLink RX1 59 "FrontDoor$Server" "open" "I"] ++ wsX10 ++ wsX00 ++ wsX20)
def wsX1_tell : List Cond := .code yX1_tell cX1_tell 2 (some .int) :: ([.fieldLink RX1 31 "FrontDoor$Call" "state" "I", .fieldLink RX1 15 "FrontDoor$Call" "key" "I", .fieldLink RX1 18 "FrontDoor$Call" "grade" "I", .fieldLink RX1 24 "FrontDoor$Call" "due" "I", .fieldLink RX1 27 "FrontDoor$Call" "safe" "Z", .fieldLink RX1 40 "FrontDoor$Call" "first" "LFrontDoor$Asking;", .fieldLink RX1 44 "FrontDoor$Call" "second" "LFrontDoor$Asking;", .fieldLink RX1 37 "FrontDoor$Call" "answerer" "I", .fieldLink RX1 50 "FrontDoor$Asking" "server" "LFrontDoor$Server;", .fieldLink RX1 56 "FrontDoor$Server" "number" "I", .fieldLink RX1 47 "FrontDoor$Call" "tried" "I", .fieldLink RX1 21 "FrontDoor$Call" "came" "I", .fieldLink RX1 34 "FrontDoor$Call" "ended" "I"] ++ wsX10 ++ wsX00 ++ wsX20)
def wsX2_init : List Cond := .code yX2_init cX2_init 7 none :: ([.methodLink RX2 3 objectInit, .instanceMethod objectInit, .code objectInit ⟨#[0xb1]⟩ 1 none, .fieldLink RX2 9 "FrontDoor$Server" "number" "I", .fieldLink RX2 15 "FrontDoor$Server" "weight" "I", .fieldLink RX2 18 "FrontDoor$Server" "zone" "I", .fieldLink RX2 21 "FrontDoor$Server" "room" "I", .fieldLink RX2 24 "FrontDoor$Server" "pace" "I", .fieldLink RX2 27 "FrontDoor$Server" "breaks" "I", .fieldLink RX2 30 "FrontDoor$Server" "health" "I", .fieldLink RX2 33 "FrontDoor$Server" "penalty" "I"] ++ wsX20)
def wsX2_mayBeAsked : List Cond := .code yX2_mayBeAsked cX2_mayBeAsked 2 (some .boolean) :: ([.fieldLink RX2 9 "FrontDoor$Server" "number" "I", .fieldLink RX2 36 "FrontDoor$Server" "open" "I", .fieldLink RX2 21 "FrontDoor$Server" "room" "I", .fieldLink RX2 30 "FrontDoor$Server" "health" "I"] ++ wsX20)
def wsX2_placeOfMark : List Cond := .code yX2_placeOfMark cX2_placeOfMark 2 (some .int) :: ([.constant RX2 39 (40503), .fieldLink RX2 9 "FrontDoor$Server" "number" "I", .constant RX2 40 (65535)] ++ wsX20)
def wsX2_wayFrom : List Cond := .code yX2_wayFrom cX2_wayFrom 4 (some .int) :: ([.constant RX2 40 (65535), .methodLink RX2 45 Lib.Math.min.name, .static Lib.Math.min.name, .initialized "java/lang/Math", .code Lib.Math.min.name Lib.Math.min.code 2 (some .int), .methodLink RX2 41 yX2_placeOfMark, .instanceMethod yX2_placeOfMark, .selects RX2 yX2_placeOfMark yX2_placeOfMark, .initialized RX2, .code yX2_placeOfMark cX2_placeOfMark 2 (some .int), .constant RX2 39 (40503), .fieldLink RX2 9 "FrontDoor$Server" "number" "I"] ++ wsX20)
def wsX2_takeAsking : List Cond := .code yX2_takeAsking cX2_takeAsking 4 (some (.object "FrontDoor$Asking")) :: ([.fieldLink RX2 51 "FrontDoor$Server" "asked" "I", .fieldLink RX2 36 "FrontDoor$Server" "open" "I", .fieldLink RX2 54 "FrontDoor$Server" "mute" "I", .fieldLink RX2 24 "FrontDoor$Server" "pace" "I", .fieldLink RX2 27 "FrontDoor$Server" "breaks" "I", .classLink RX2 57 RX0, .instantiable RX0 4, .initialized RX0, .methodLink RX2 59 yX0_init, .instanceMethod yX0_init, .code yX0_init cX0_init 5 none, .methodLink RX0 1 objectInit, .instanceMethod objectInit, .code objectInit ⟨#[0xb1]⟩ 1 none, .fieldLink RX0 7 "FrontDoor$Asking" "server" "LFrontDoor$Server;", .fieldLink RX0 13 "FrontDoor$Asking" "since" "I", .fieldLink RX0 17 "FrontDoor$Asking" "over" "I", .fieldLink RX0 20 "FrontDoor$Asking" "fails" "Z"] ++ wsX20 ++ wsX00)
def wsX2_answer : List Cond := .code yX2_answer cX2_answer 1 none :: ([.fieldLink RX2 62 "FrontDoor$Server" "answers" "I", .fieldLink RX2 65 "FrontDoor$Server" "row" "I", .fieldLink RX2 33 "FrontDoor$Server" "penalty" "I", .fieldLink RX2 30 "FrontDoor$Server" "health" "I"] ++ wsX20)
def wsX2_goOut : List Cond := .code yX2_goOut cX2_goOut 2 none :: ([.fieldLink RX2 30 "FrontDoor$Server" "health" "I", .fieldLink RX2 33 "FrontDoor$Server" "penalty" "I", .fieldLink RX2 68 "FrontDoor$Server" "until" "I", .methodLink RX2 45 Lib.Math.min.name, .static Lib.Math.min.name, .initialized "java/lang/Math", .code Lib.Math.min.name Lib.Math.min.code 2 (some .int), .fieldLink RX2 71 "FrontDoor$Server" "outs" "I", .fieldLink RX2 65 "FrontDoor$Server" "row" "I"] ++ wsX20)
def wsX2_tell : List Cond := .code yX2_tell cX2_tell 2 (some .int) :: ([.fieldLink RX2 30 "FrontDoor$Server" "health" "I", .fieldLink RX2 36 "FrontDoor$Server" "open" "I", .fieldLink RX2 51 "FrontDoor$Server" "asked" "I", .fieldLink RX2 62 "FrontDoor$Server" "answers" "I", .fieldLink RX2 77 "FrontDoor$Server" "failures" "I", .fieldLink RX2 65 "FrontDoor$Server" "row" "I", .fieldLink RX2 68 "FrontDoor$Server" "until" "I", .fieldLink RX2 33 "FrontDoor$Server" "penalty" "I", .fieldLink RX2 71 "FrontDoor$Server" "outs" "I", .fieldLink RX2 80 "FrontDoor$Server" "credit" "I", .constant RX2 83 (1000000000), .fieldLink RX2 15 "FrontDoor$Server" "weight" "I", .fieldLink RX2 18 "FrontDoor$Server" "zone" "I", .fieldLink RX2 21 "FrontDoor$Server" "room" "I", .fieldLink RX2 24 "FrontDoor$Server" "pace" "I", .fieldLink RX2 27 "FrontDoor$Server" "breaks" "I", .fieldLink RX2 54 "FrontDoor$Server" "mute" "I"] ++ wsX20)
def wsX2_change : List Cond := .code yX2_change cX2_change 4 (some .int) :: ([.fieldLink RX2 15 "FrontDoor$Server" "weight" "I", .fieldLink RX2 21 "FrontDoor$Server" "room" "I", .fieldLink RX2 24 "FrontDoor$Server" "pace" "I", .fieldLink RX2 27 "FrontDoor$Server" "breaks" "I", .fieldLink RX2 54 "FrontDoor$Server" "mute" "I", .methodLink RX2 74 yX2_tell, .instanceMethod yX2_tell, .selects RX2 yX2_tell yX2_tell, .initialized RX2, .code yX2_tell cX2_tell 2 (some .int), .fieldLink RX2 30 "FrontDoor$Server" "health" "I", .fieldLink RX2 36 "FrontDoor$Server" "open" "I", .fieldLink RX2 51 "FrontDoor$Server" "asked" "I", .fieldLink RX2 62 "FrontDoor$Server" "answers" "I", .fieldLink RX2 77 "FrontDoor$Server" "failures" "I", .fieldLink RX2 65 "FrontDoor$Server" "row" "I", .fieldLink RX2 68 "FrontDoor$Server" "until" "I", .fieldLink RX2 33 "FrontDoor$Server" "penalty" "I", .fieldLink RX2 71 "FrontDoor$Server" "outs" "I", .fieldLink RX2 80 "FrontDoor$Server" "credit" "I", .constant RX2 83 (1000000000), .fieldLink RX2 18 "FrontDoor$Server" "zone" "I"] ++ wsX20)
def wsJxa1e45_init_da8c8 : List Cond := .code yJxa1e45_init_da8c8 cJxa1e45_init_da8c8 1 none :: ([.methodLink RJxa1e45 1 objectInit, .instanceMethod objectInit, .code objectInit ⟨#[0xb1]⟩ 1 none])
def wsJxc12de_init_da8c8 : List Cond := .code yJxc12de_init_da8c8 cJxc12de_init_da8c8 1 none :: ([.fieldLink RJxc12de 7 "java/util/AbstractList" "modCount" "I", .methodLink RJxc12de 1 yJxa1e45_init_da8c8, .instanceMethod yJxa1e45_init_da8c8, .initialized RJxa1e45, .code yJxa1e45_init_da8c8 cJxa1e45_init_da8c8 1 none, .methodLink RJxa1e45 1 objectInit, .instanceMethod objectInit, .code objectInit ⟨#[0xb1]⟩ 1 none] ++ wsJx4a65c0)
def wsJx4a65c_init_da8c8 : List Cond := .code yJx4a65c_init_da8c8 cJx4a65c_init_da8c8 1 none :: ([.fieldLink RJx4a65c 39 "java/util/ArrayList" "DEFAULTCAPACITY_EMPTY_ELEMENTDATA" "[Ljava/lang/Object;", .fieldLink RJx4a65c 9 "java/util/ArrayList" "elementData" "[Ljava/lang/Object;", .methodLink RJx4a65c 1 yJxc12de_init_da8c8, .instanceMethod yJxc12de_init_da8c8, .initialized RJxc12de, .code yJxc12de_init_da8c8 cJxc12de_init_da8c8 1 none, .fieldLink RJxc12de 7 "java/util/AbstractList" "modCount" "I", .methodLink RJxc12de 1 yJxa1e45_init_da8c8, .instanceMethod yJxa1e45_init_da8c8, .initialized RJxa1e45, .code yJxa1e45_init_da8c8 cJxa1e45_init_da8c8 1 none, .methodLink RJxa1e45 1 objectInit, .instanceMethod objectInit, .code objectInit ⟨#[0xb1]⟩ 1 none] ++ wsJx4a65c0)
def wsX3_init_r1 : List Cond := [Cond.methodLink RX3 1 objectInit, Cond.instanceMethod objectInit, Cond.code objectInit ⟨#[0xb1]⟩ 1 none, Cond.classLink RX3 7 RJx4a65c, Cond.instantiable RJx4a65c 3, Cond.initialized RJx4a65c, Cond.fieldLink RX3 10 "FrontDoor" "servers" "Ljava/util/ArrayList;", Cond.fieldLink RX3 16 "FrontDoor" "calls" "Ljava/util/ArrayList;", Cond.fieldLink RX3 19 "FrontDoor" "live" "Ljava/util/ArrayList;", Cond.fieldLink RX3 22 "FrontDoor" "line" "Ljava/util/ArrayList;", Cond.arrayClass .int, Cond.fieldLink RX3 25 "FrontDoor" "refusals" "[I", Cond.fieldLink RX3 29 "FrontDoor" "ruleNow" "I", Cond.fieldLink RX3 33 "FrontDoor" "limitNow" "I", Cond.fieldLink RX3 36 "FrontDoor" "budgetNow" "I", Cond.methodLink RX3 9 yJx4a65c_init_da8c8, Cond.instanceMethod yJx4a65c_init_da8c8, Cond.code yJx4a65c_init_da8c8 cJx4a65c_init_da8c8 1 none, Cond.fieldLink RJx4a65c 39 "java/util/ArrayList" "DEFAULTCAPACITY_EMPTY_ELEMENTDATA" "[Ljava/lang/Object;", Cond.fieldLink RJx4a65c 9 "java/util/ArrayList" "elementData" "[Ljava/lang/Object;", Cond.methodLink RJx4a65c 1 yJxc12de_init_da8c8, Cond.instanceMethod yJxc12de_init_da8c8, Cond.initialized RJxc12de, Cond.code yJxc12de_init_da8c8 cJxc12de_init_da8c8 1 none]
def wsX3_init_r2 : List Cond := [Cond.fieldLink RJxc12de 7 "java/util/AbstractList" "modCount" "I", Cond.methodLink RJxc12de 1 yJxa1e45_init_da8c8, Cond.instanceMethod yJxa1e45_init_da8c8, Cond.initialized RJxa1e45, Cond.code yJxa1e45_init_da8c8 cJxa1e45_init_da8c8 1 none, Cond.methodLink RJxa1e45 1 objectInit]
def wsX3_init : List Cond := .code yX3_init cX3_init 1 none :: ((wsX3_init_r1 ++ wsX3_init_r2) ++ wsJx4a65c0 ++ wsX30)
def wsX3_refuse : List Cond := .code yX3_refuse cX3_refuse 3 (some .int) :: ([.fieldLink RX3 25 "FrontDoor" "refusals" "[I"] ++ wsX30)
def wsJx4a65c_size_8abf5 : List Cond := .code yJx4a65c_size_8abf5 cJx4a65c_size_8abf5 1 (some .int) :: ([.fieldLink RJx4a65c 48 "java/util/ArrayList" "size" "I"] ++ wsJx4a65c0)
def wsJ8_hugeLength_7cf53 : List Cond := .code yJ8_hugeLength_7cf53 cJ8_hugeLength_7cf53 3 (some .int) :: ([.constant RJ8 200 (2147483639)])
def wsJ8_newLength_cabcc : List Cond := .code yJ8_newLength_cabcc cJ8_newLength_cabcc 4 (some .int) :: ([.methodLink RJ8 194 Lib.Math.max.name, .static Lib.Math.max.name, .initialized "java/lang/Math", .code Lib.Math.max.name Lib.Math.max.code 2 (some .int), .constant RJ8 200 (2147483639), .methodLink RJ8 201 yJ8_hugeLength_7cf53, .static yJ8_hugeLength_7cf53, .initialized RJ8, .code yJ8_hugeLength_7cf53 cJ8_hugeLength_7cf53 3 (some .int)])
def wsJ7_copyOf_6403c : List Cond := .code yJ7_copyOf_6403c cJ7_copyOf_6403c 4 (some (.array (.object "java/lang/Object"))) :: ([.classLink RJ7 110 "[Ljava/lang/Object;", .classLink RJ7 2 "java/lang/Object", .methodLink RJ7 304 Lib.Math.min.name, .static Lib.Math.min.name, .initialized "java/lang/Math", .code Lib.Math.min.name Lib.Math.min.code 2 (some .int), .methodLink RJ7 150 arraycopyName, .native arraycopyName, .static arraycopyName, .initialized "java/lang/System"])
def wsJ7_copyOf_1904c : List Cond := .code yJ7_copyOf_1904c cJ7_copyOf_1904c 2 (some (.array (.object "java/lang/Object"))) :: ([.methodLink RJ7 86 ⟨"java/lang/Object", "getClass", "()Ljava/lang/Class;"⟩, .selects "[Ljava/lang/Object;" ⟨"java/lang/Object", "getClass", "()Ljava/lang/Class;"⟩ ⟨"java/lang/Object", "getClass", "()Ljava/lang/Class;"⟩, .instanceMethod ⟨"java/lang/Object", "getClass", "()Ljava/lang/Class;"⟩, .native ⟨"java/lang/Object", "getClass", "()Ljava/lang/Class;"⟩, .methodLink RJ7 300 yJ7_copyOf_6403c, .static yJ7_copyOf_6403c, .initialized RJ7, .code yJ7_copyOf_6403c cJ7_copyOf_6403c 4 (some (.array (.object "java/lang/Object"))), .classLink RJ7 110 "[Ljava/lang/Object;", .classLink RJ7 2 "java/lang/Object", .methodLink RJ7 304 Lib.Math.min.name, .static Lib.Math.min.name, .initialized "java/lang/Math", .code Lib.Math.min.name Lib.Math.min.code 2 (some .int), .methodLink RJ7 150 arraycopyName, .native arraycopyName, .static arraycopyName, .initialized "java/lang/System"])
def wsJx4a65c_grow_92f84_r1 : List Cond := [Cond.fieldLink RJx4a65c 9 "java/util/ArrayList" "elementData" "[Ljava/lang/Object;", Cond.fieldLink RJx4a65c 39 "java/util/ArrayList" "DEFAULTCAPACITY_EMPTY_ELEMENTDATA" "[Ljava/lang/Object;", Cond.methodLink RJx4a65c 79 Lib.Math.max.name, Cond.static Lib.Math.max.name, Cond.initialized "java/lang/Math", Cond.code Lib.Math.max.name Lib.Math.max.code 2 (some .int), Cond.classLink RJx4a65c 7 "java/lang/Object", Cond.methodLink RJx4a65c 73 yJ8_newLength_cabcc, Cond.static yJ8_newLength_cabcc, Cond.initialized RJ8, Cond.code yJ8_newLength_cabcc cJ8_newLength_cabcc 4 (some .int), Cond.methodLink RJ8 194 Lib.Math.max.name, Cond.constant RJ8 200 (2147483639), Cond.methodLink RJ8 201 yJ8_hugeLength_7cf53, Cond.static yJ8_hugeLength_7cf53, Cond.code yJ8_hugeLength_7cf53 cJ8_hugeLength_7cf53 3 (some .int), Cond.methodLink RJx4a65c 66 yJ7_copyOf_1904c, Cond.static yJ7_copyOf_1904c, Cond.initialized RJ7, Cond.code yJ7_copyOf_1904c cJ7_copyOf_1904c 2 (some (.array (.object "java/lang/Object"))), Cond.methodLink RJ7 86 ⟨"java/lang/Object", "getClass", "()Ljava/lang/Class;"⟩, Cond.selects "[Ljava/lang/Object;" ⟨"java/lang/Object", "getClass", "()Ljava/lang/Class;"⟩ ⟨"java/lang/Object", "getClass", "()Ljava/lang/Class;"⟩, Cond.instanceMethod ⟨"java/lang/Object", "getClass", "()Ljava/lang/Class;"⟩, Cond.native ⟨"java/lang/Object", "getClass", "()Ljava/lang/Class;"⟩]
def wsJx4a65c_grow_92f84_r2 : List Cond := [Cond.methodLink RJ7 300 yJ7_copyOf_6403c, Cond.static yJ7_copyOf_6403c, Cond.code yJ7_copyOf_6403c cJ7_copyOf_6403c 4 (some (.array (.object "java/lang/Object"))), Cond.classLink RJ7 110 "[Ljava/lang/Object;", Cond.classLink RJ7 2 "java/lang/Object", Cond.methodLink RJ7 304 Lib.Math.min.name, Cond.static Lib.Math.min.name, Cond.code Lib.Math.min.name Lib.Math.min.code 2 (some .int), Cond.methodLink RJ7 150 arraycopyName, Cond.native arraycopyName, Cond.static arraycopyName, Cond.initialized "java/lang/System"]
def wsJx4a65c_grow_92f84 : List Cond := .code yJx4a65c_grow_92f84 cJx4a65c_grow_92f84 4 (some (.array (.object "java/lang/Object"))) :: ((wsJx4a65c_grow_92f84_r1 ++ wsJx4a65c_grow_92f84_r2) ++ wsJx4a65c0)
def wsJx4a65c_grow_d5877_r1 : List Cond := [Cond.fieldLink RJx4a65c 48 "java/util/ArrayList" "size" "I", Cond.methodLink RJx4a65c 69 yJx4a65c_grow_92f84, Cond.instanceMethod yJx4a65c_grow_92f84, Cond.selects RJx4a65c yJx4a65c_grow_92f84 yJx4a65c_grow_92f84, Cond.initialized RJx4a65c, Cond.code yJx4a65c_grow_92f84 cJx4a65c_grow_92f84 4 (some (.array (.object "java/lang/Object"))), Cond.fieldLink RJx4a65c 9 "java/util/ArrayList" "elementData" "[Ljava/lang/Object;", Cond.fieldLink RJx4a65c 39 "java/util/ArrayList" "DEFAULTCAPACITY_EMPTY_ELEMENTDATA" "[Ljava/lang/Object;", Cond.methodLink RJx4a65c 79 Lib.Math.max.name, Cond.static Lib.Math.max.name, Cond.initialized "java/lang/Math", Cond.code Lib.Math.max.name Lib.Math.max.code 2 (some .int), Cond.classLink RJx4a65c 7 "java/lang/Object", Cond.methodLink RJx4a65c 73 yJ8_newLength_cabcc, Cond.static yJ8_newLength_cabcc, Cond.initialized RJ8, Cond.code yJ8_newLength_cabcc cJ8_newLength_cabcc 4 (some .int), Cond.methodLink RJ8 194 Lib.Math.max.name, Cond.constant RJ8 200 (2147483639), Cond.methodLink RJ8 201 yJ8_hugeLength_7cf53, Cond.static yJ8_hugeLength_7cf53, Cond.code yJ8_hugeLength_7cf53 cJ8_hugeLength_7cf53 3 (some .int), Cond.methodLink RJx4a65c 66 yJ7_copyOf_1904c, Cond.static yJ7_copyOf_1904c]
def wsJx4a65c_grow_d5877_r2 : List Cond := [Cond.initialized RJ7, Cond.code yJ7_copyOf_1904c cJ7_copyOf_1904c 2 (some (.array (.object "java/lang/Object"))), Cond.methodLink RJ7 86 ⟨"java/lang/Object", "getClass", "()Ljava/lang/Class;"⟩, Cond.selects "[Ljava/lang/Object;" ⟨"java/lang/Object", "getClass", "()Ljava/lang/Class;"⟩ ⟨"java/lang/Object", "getClass", "()Ljava/lang/Class;"⟩, Cond.instanceMethod ⟨"java/lang/Object", "getClass", "()Ljava/lang/Class;"⟩, Cond.native ⟨"java/lang/Object", "getClass", "()Ljava/lang/Class;"⟩, Cond.methodLink RJ7 300 yJ7_copyOf_6403c, Cond.static yJ7_copyOf_6403c, Cond.code yJ7_copyOf_6403c cJ7_copyOf_6403c 4 (some (.array (.object "java/lang/Object"))), Cond.classLink RJ7 110 "[Ljava/lang/Object;", Cond.classLink RJ7 2 "java/lang/Object", Cond.methodLink RJ7 304 Lib.Math.min.name, Cond.static Lib.Math.min.name, Cond.code Lib.Math.min.name Lib.Math.min.code 2 (some .int), Cond.methodLink RJ7 150 arraycopyName, Cond.native arraycopyName, Cond.static arraycopyName, Cond.initialized "java/lang/System"]
def wsJx4a65c_grow_d5877 : List Cond := .code yJx4a65c_grow_d5877 cJx4a65c_grow_d5877 1 (some (.array (.object "java/lang/Object"))) :: ((wsJx4a65c_grow_d5877_r1 ++ wsJx4a65c_grow_d5877_r2) ++ wsJx4a65c0)
def wsJx4a65c_add_72be8_r1 : List Cond := [Cond.fieldLink RJx4a65c 48 "java/util/ArrayList" "size" "I", Cond.methodLink RJx4a65c 129 yJx4a65c_grow_d5877, Cond.instanceMethod yJx4a65c_grow_d5877, Cond.selects RJx4a65c yJx4a65c_grow_d5877 yJx4a65c_grow_d5877, Cond.initialized RJx4a65c, Cond.code yJx4a65c_grow_d5877 cJx4a65c_grow_d5877 1 (some (.array (.object "java/lang/Object"))), Cond.methodLink RJx4a65c 69 yJx4a65c_grow_92f84, Cond.instanceMethod yJx4a65c_grow_92f84, Cond.selects RJx4a65c yJx4a65c_grow_92f84 yJx4a65c_grow_92f84, Cond.code yJx4a65c_grow_92f84 cJx4a65c_grow_92f84 4 (some (.array (.object "java/lang/Object"))), Cond.fieldLink RJx4a65c 9 "java/util/ArrayList" "elementData" "[Ljava/lang/Object;", Cond.fieldLink RJx4a65c 39 "java/util/ArrayList" "DEFAULTCAPACITY_EMPTY_ELEMENTDATA" "[Ljava/lang/Object;", Cond.methodLink RJx4a65c 79 Lib.Math.max.name, Cond.static Lib.Math.max.name, Cond.initialized "java/lang/Math", Cond.code Lib.Math.max.name Lib.Math.max.code 2 (some .int), Cond.classLink RJx4a65c 7 "java/lang/Object", Cond.methodLink RJx4a65c 73 yJ8_newLength_cabcc, Cond.static yJ8_newLength_cabcc, Cond.initialized RJ8, Cond.code yJ8_newLength_cabcc cJ8_newLength_cabcc 4 (some .int), Cond.methodLink RJ8 194 Lib.Math.max.name, Cond.constant RJ8 200 (2147483639), Cond.methodLink RJ8 201 yJ8_hugeLength_7cf53]
def wsJx4a65c_add_72be8_r2 : List Cond := [Cond.static yJ8_hugeLength_7cf53, Cond.code yJ8_hugeLength_7cf53 cJ8_hugeLength_7cf53 3 (some .int), Cond.methodLink RJx4a65c 66 yJ7_copyOf_1904c, Cond.static yJ7_copyOf_1904c, Cond.initialized RJ7, Cond.code yJ7_copyOf_1904c cJ7_copyOf_1904c 2 (some (.array (.object "java/lang/Object"))), Cond.methodLink RJ7 86 ⟨"java/lang/Object", "getClass", "()Ljava/lang/Class;"⟩, Cond.selects "[Ljava/lang/Object;" ⟨"java/lang/Object", "getClass", "()Ljava/lang/Class;"⟩ ⟨"java/lang/Object", "getClass", "()Ljava/lang/Class;"⟩, Cond.instanceMethod ⟨"java/lang/Object", "getClass", "()Ljava/lang/Class;"⟩, Cond.native ⟨"java/lang/Object", "getClass", "()Ljava/lang/Class;"⟩, Cond.methodLink RJ7 300 yJ7_copyOf_6403c, Cond.static yJ7_copyOf_6403c, Cond.code yJ7_copyOf_6403c cJ7_copyOf_6403c 4 (some (.array (.object "java/lang/Object"))), Cond.classLink RJ7 110 "[Ljava/lang/Object;", Cond.classLink RJ7 2 "java/lang/Object", Cond.methodLink RJ7 304 Lib.Math.min.name, Cond.static Lib.Math.min.name, Cond.code Lib.Math.min.name Lib.Math.min.code 2 (some .int), Cond.methodLink RJ7 150 arraycopyName, Cond.native arraycopyName, Cond.static arraycopyName, Cond.initialized "java/lang/System"]
def wsJx4a65c_add_72be8 : List Cond := .code yJx4a65c_add_72be8 cJx4a65c_add_72be8 4 none :: ((wsJx4a65c_add_72be8_r1 ++ wsJx4a65c_add_72be8_r2) ++ wsJx4a65c0)
def wsJx4a65c_add_9ea2d_r1 : List Cond := [Cond.fieldLink RJx4a65c 63 "java/util/ArrayList" "modCount" "I", Cond.sameField "java/util/ArrayList" "java/util/AbstractList" "modCount" "I", Cond.fieldLink RJx4a65c 9 "java/util/ArrayList" "elementData" "[Ljava/lang/Object;", Cond.fieldLink RJx4a65c 48 "java/util/ArrayList" "size" "I", Cond.methodLink RJx4a65c 131 yJx4a65c_add_72be8, Cond.instanceMethod yJx4a65c_add_72be8, Cond.selects RJx4a65c yJx4a65c_add_72be8 yJx4a65c_add_72be8, Cond.initialized RJx4a65c, Cond.code yJx4a65c_add_72be8 cJx4a65c_add_72be8 4 none, Cond.methodLink RJx4a65c 129 yJx4a65c_grow_d5877, Cond.instanceMethod yJx4a65c_grow_d5877, Cond.selects RJx4a65c yJx4a65c_grow_d5877 yJx4a65c_grow_d5877, Cond.code yJx4a65c_grow_d5877 cJx4a65c_grow_d5877 1 (some (.array (.object "java/lang/Object"))), Cond.methodLink RJx4a65c 69 yJx4a65c_grow_92f84, Cond.instanceMethod yJx4a65c_grow_92f84, Cond.selects RJx4a65c yJx4a65c_grow_92f84 yJx4a65c_grow_92f84, Cond.code yJx4a65c_grow_92f84 cJx4a65c_grow_92f84 4 (some (.array (.object "java/lang/Object"))), Cond.fieldLink RJx4a65c 39 "java/util/ArrayList" "DEFAULTCAPACITY_EMPTY_ELEMENTDATA" "[Ljava/lang/Object;", Cond.methodLink RJx4a65c 79 Lib.Math.max.name, Cond.static Lib.Math.max.name, Cond.initialized "java/lang/Math", Cond.code Lib.Math.max.name Lib.Math.max.code 2 (some .int), Cond.classLink RJx4a65c 7 "java/lang/Object", Cond.methodLink RJx4a65c 73 yJ8_newLength_cabcc]
def wsJx4a65c_add_9ea2d_r2 : List Cond := [Cond.static yJ8_newLength_cabcc, Cond.initialized RJ8, Cond.code yJ8_newLength_cabcc cJ8_newLength_cabcc 4 (some .int), Cond.methodLink RJ8 194 Lib.Math.max.name, Cond.constant RJ8 200 (2147483639), Cond.methodLink RJ8 201 yJ8_hugeLength_7cf53, Cond.static yJ8_hugeLength_7cf53, Cond.code yJ8_hugeLength_7cf53 cJ8_hugeLength_7cf53 3 (some .int), Cond.methodLink RJx4a65c 66 yJ7_copyOf_1904c, Cond.static yJ7_copyOf_1904c, Cond.initialized RJ7, Cond.code yJ7_copyOf_1904c cJ7_copyOf_1904c 2 (some (.array (.object "java/lang/Object"))), Cond.methodLink RJ7 86 ⟨"java/lang/Object", "getClass", "()Ljava/lang/Class;"⟩, Cond.selects "[Ljava/lang/Object;" ⟨"java/lang/Object", "getClass", "()Ljava/lang/Class;"⟩ ⟨"java/lang/Object", "getClass", "()Ljava/lang/Class;"⟩, Cond.instanceMethod ⟨"java/lang/Object", "getClass", "()Ljava/lang/Class;"⟩, Cond.native ⟨"java/lang/Object", "getClass", "()Ljava/lang/Class;"⟩, Cond.methodLink RJ7 300 yJ7_copyOf_6403c, Cond.static yJ7_copyOf_6403c, Cond.code yJ7_copyOf_6403c cJ7_copyOf_6403c 4 (some (.array (.object "java/lang/Object"))), Cond.classLink RJ7 110 "[Ljava/lang/Object;", Cond.classLink RJ7 2 "java/lang/Object", Cond.methodLink RJ7 304 Lib.Math.min.name, Cond.static Lib.Math.min.name, Cond.code Lib.Math.min.name Lib.Math.min.code 2 (some .int)]
def wsJx4a65c_add_9ea2d_r3 : List Cond := [Cond.methodLink RJ7 150 arraycopyName, Cond.native arraycopyName, Cond.static arraycopyName, Cond.initialized "java/lang/System"]
def wsJx4a65c_add_9ea2d : List Cond := .code yJx4a65c_add_9ea2d cJx4a65c_add_9ea2d 2 (some .boolean) :: ((wsJx4a65c_add_9ea2d_r1 ++ (wsJx4a65c_add_9ea2d_r2 ++ wsJx4a65c_add_9ea2d_r3)) ++ wsJx4a65c0)
def wsX3_server_r1 : List Cond := [Cond.fieldLink RX3 10 "FrontDoor" "servers" "Ljava/util/ArrayList;", Cond.classLink RX3 47 RX2, Cond.instantiable RX2 17, Cond.initialized RX2, Cond.fieldLink RX3 56 "FrontDoor$Server" "number" "I", Cond.methodLink RX3 39 yX3_refuse, Cond.instanceMethod yX3_refuse, Cond.selects RX3 yX3_refuse yX3_refuse, Cond.initialized RX3, Cond.code yX3_refuse cX3_refuse 3 (some .int), Cond.fieldLink RX3 25 "FrontDoor" "refusals" "[I", Cond.methodLink RX3 43 yJx4a65c_size_8abf5, Cond.instanceMethod yJx4a65c_size_8abf5, Cond.selects RJx4a65c yJx4a65c_size_8abf5 yJx4a65c_size_8abf5, Cond.initialized RJx4a65c, Cond.code yJx4a65c_size_8abf5 cJx4a65c_size_8abf5 1 (some .int), Cond.fieldLink RJx4a65c 48 "java/util/ArrayList" "size" "I", Cond.methodLink RX3 49 yX2_init, Cond.instanceMethod yX2_init, Cond.code yX2_init cX2_init 7 none, Cond.methodLink RX2 3 objectInit, Cond.instanceMethod objectInit, Cond.code objectInit ⟨#[0xb1]⟩ 1 none, Cond.fieldLink RX2 9 "FrontDoor$Server" "number" "I"]
def wsX3_server_r2 : List Cond := [Cond.fieldLink RX2 15 "FrontDoor$Server" "weight" "I", Cond.fieldLink RX2 18 "FrontDoor$Server" "zone" "I", Cond.fieldLink RX2 21 "FrontDoor$Server" "room" "I", Cond.fieldLink RX2 24 "FrontDoor$Server" "pace" "I", Cond.fieldLink RX2 27 "FrontDoor$Server" "breaks" "I", Cond.fieldLink RX2 30 "FrontDoor$Server" "health" "I", Cond.fieldLink RX2 33 "FrontDoor$Server" "penalty" "I", Cond.methodLink RX3 52 yJx4a65c_add_9ea2d, Cond.instanceMethod yJx4a65c_add_9ea2d, Cond.selects RJx4a65c yJx4a65c_add_9ea2d yJx4a65c_add_9ea2d, Cond.code yJx4a65c_add_9ea2d cJx4a65c_add_9ea2d 2 (some .boolean), Cond.fieldLink RJx4a65c 63 "java/util/ArrayList" "modCount" "I", Cond.sameField "java/util/ArrayList" "java/util/AbstractList" "modCount" "I", Cond.fieldLink RJx4a65c 9 "java/util/ArrayList" "elementData" "[Ljava/lang/Object;", Cond.methodLink RJx4a65c 131 yJx4a65c_add_72be8, Cond.instanceMethod yJx4a65c_add_72be8, Cond.selects RJx4a65c yJx4a65c_add_72be8 yJx4a65c_add_72be8, Cond.code yJx4a65c_add_72be8 cJx4a65c_add_72be8 4 none, Cond.methodLink RJx4a65c 129 yJx4a65c_grow_d5877, Cond.instanceMethod yJx4a65c_grow_d5877, Cond.selects RJx4a65c yJx4a65c_grow_d5877 yJx4a65c_grow_d5877, Cond.code yJx4a65c_grow_d5877 cJx4a65c_grow_d5877 1 (some (.array (.object "java/lang/Object"))), Cond.methodLink RJx4a65c 69 yJx4a65c_grow_92f84, Cond.instanceMethod yJx4a65c_grow_92f84]
def wsX3_server_r3 : List Cond := [Cond.selects RJx4a65c yJx4a65c_grow_92f84 yJx4a65c_grow_92f84, Cond.code yJx4a65c_grow_92f84 cJx4a65c_grow_92f84 4 (some (.array (.object "java/lang/Object"))), Cond.fieldLink RJx4a65c 39 "java/util/ArrayList" "DEFAULTCAPACITY_EMPTY_ELEMENTDATA" "[Ljava/lang/Object;", Cond.methodLink RJx4a65c 79 Lib.Math.max.name, Cond.static Lib.Math.max.name, Cond.initialized "java/lang/Math", Cond.code Lib.Math.max.name Lib.Math.max.code 2 (some .int), Cond.classLink RJx4a65c 7 "java/lang/Object", Cond.methodLink RJx4a65c 73 yJ8_newLength_cabcc, Cond.static yJ8_newLength_cabcc, Cond.initialized RJ8, Cond.code yJ8_newLength_cabcc cJ8_newLength_cabcc 4 (some .int), Cond.methodLink RJ8 194 Lib.Math.max.name, Cond.constant RJ8 200 (2147483639), Cond.methodLink RJ8 201 yJ8_hugeLength_7cf53, Cond.static yJ8_hugeLength_7cf53, Cond.code yJ8_hugeLength_7cf53 cJ8_hugeLength_7cf53 3 (some .int), Cond.methodLink RJx4a65c 66 yJ7_copyOf_1904c, Cond.static yJ7_copyOf_1904c, Cond.initialized RJ7, Cond.code yJ7_copyOf_1904c cJ7_copyOf_1904c 2 (some (.array (.object "java/lang/Object"))), Cond.methodLink RJ7 86 ⟨"java/lang/Object", "getClass", "()Ljava/lang/Class;"⟩, Cond.selects "[Ljava/lang/Object;" ⟨"java/lang/Object", "getClass", "()Ljava/lang/Class;"⟩ ⟨"java/lang/Object", "getClass", "()Ljava/lang/Class;"⟩, Cond.instanceMethod ⟨"java/lang/Object", "getClass", "()Ljava/lang/Class;"⟩]
def wsX3_server_r4 : List Cond := [Cond.native ⟨"java/lang/Object", "getClass", "()Ljava/lang/Class;"⟩, Cond.methodLink RJ7 300 yJ7_copyOf_6403c, Cond.static yJ7_copyOf_6403c, Cond.code yJ7_copyOf_6403c cJ7_copyOf_6403c 4 (some (.array (.object "java/lang/Object"))), Cond.classLink RJ7 110 "[Ljava/lang/Object;", Cond.classLink RJ7 2 "java/lang/Object", Cond.methodLink RJ7 304 Lib.Math.min.name, Cond.static Lib.Math.min.name, Cond.code Lib.Math.min.name Lib.Math.min.code 2 (some .int), Cond.methodLink RJ7 150 arraycopyName, Cond.native arraycopyName, Cond.static arraycopyName, Cond.initialized "java/lang/System"]
def wsX3_server : List Cond := .code yX3_server cX3_server 7 (some .int) :: ((wsX3_server_r1 ++ (wsX3_server_r2 ++ (wsX3_server_r3 ++ wsX3_server_r4))) ++ wsX30 ++ wsX20 ++ wsJx4a65c0)
def wsJ3_checkIndex_8e157 : List Cond := .code yJ3_checkIndex_8e157 cJ3_checkIndex_8e157 3 (some .int) :: ([])
def wsJ15_checkIndex_7cf53 : List Cond := .code yJ15_checkIndex_7cf53 cJ15_checkIndex_7cf53 2 (some .int) :: ([.methodLink RJ15 105 yJ3_checkIndex_8e157, .static yJ3_checkIndex_8e157, .initialized RJ3, .code yJ3_checkIndex_8e157 cJ3_checkIndex_8e157 3 (some .int)])
def wsJx4a65c_elementData_915e3 : List Cond := .code yJx4a65c_elementData_915e3 cJx4a65c_elementData_915e3 2 (some (.object "java/lang/Object")) :: ([.fieldLink RJx4a65c 9 "java/util/ArrayList" "elementData" "[Ljava/lang/Object;"] ++ wsJx4a65c0)
def wsJx4a65c_get_915e3 : List Cond := .code yJx4a65c_get_915e3 cJx4a65c_get_915e3 2 (some (.object "java/lang/Object")) :: ([.fieldLink RJx4a65c 48 "java/util/ArrayList" "size" "I", .methodLink RJx4a65c 118 yJ15_checkIndex_7cf53, .static yJ15_checkIndex_7cf53, .initialized RJ15, .code yJ15_checkIndex_7cf53 cJ15_checkIndex_7cf53 2 (some .int), .methodLink RJ15 105 yJ3_checkIndex_8e157, .static yJ3_checkIndex_8e157, .initialized RJ3, .code yJ3_checkIndex_8e157 cJ3_checkIndex_8e157 3 (some .int), .methodLink RJx4a65c 123 yJx4a65c_elementData_915e3, .instanceMethod yJx4a65c_elementData_915e3, .selects RJx4a65c yJx4a65c_elementData_915e3 yJx4a65c_elementData_915e3, .initialized RJx4a65c, .code yJx4a65c_elementData_915e3 cJx4a65c_elementData_915e3 2 (some (.object "java/lang/Object")), .fieldLink RJx4a65c 9 "java/util/ArrayList" "elementData" "[Ljava/lang/Object;"] ++ wsJx4a65c0)
def wsX3_serverAt_r1 : List Cond := [Cond.fieldLink RX3 10 "FrontDoor" "servers" "Ljava/util/ArrayList;", Cond.classLink RX3 47 "FrontDoor$Server", Cond.methodLink RX3 43 yJx4a65c_size_8abf5, Cond.instanceMethod yJx4a65c_size_8abf5, Cond.selects RJx4a65c yJx4a65c_size_8abf5 yJx4a65c_size_8abf5, Cond.initialized RJx4a65c, Cond.code yJx4a65c_size_8abf5 cJx4a65c_size_8abf5 1 (some .int), Cond.fieldLink RJx4a65c 48 "java/util/ArrayList" "size" "I", Cond.methodLink RX3 151 yJx4a65c_get_915e3, Cond.instanceMethod yJx4a65c_get_915e3, Cond.selects RJx4a65c yJx4a65c_get_915e3 yJx4a65c_get_915e3, Cond.code yJx4a65c_get_915e3 cJx4a65c_get_915e3 2 (some (.object "java/lang/Object")), Cond.methodLink RJx4a65c 118 yJ15_checkIndex_7cf53, Cond.static yJ15_checkIndex_7cf53, Cond.initialized RJ15, Cond.code yJ15_checkIndex_7cf53 cJ15_checkIndex_7cf53 2 (some .int), Cond.methodLink RJ15 105 yJ3_checkIndex_8e157, Cond.static yJ3_checkIndex_8e157, Cond.initialized RJ3, Cond.code yJ3_checkIndex_8e157 cJ3_checkIndex_8e157 3 (some .int), Cond.methodLink RJx4a65c 123 yJx4a65c_elementData_915e3, Cond.instanceMethod yJx4a65c_elementData_915e3, Cond.selects RJx4a65c yJx4a65c_elementData_915e3 yJx4a65c_elementData_915e3, Cond.code yJx4a65c_elementData_915e3 cJx4a65c_elementData_915e3 2 (some (.object "java/lang/Object"))]
def wsX3_serverAt_r2 : List Cond := [Cond.fieldLink RJx4a65c 9 "java/util/ArrayList" "elementData" "[Ljava/lang/Object;"]
def wsX3_serverAt : List Cond := .code yX3_serverAt cX3_serverAt 2 (some (.object "FrontDoor$Server")) :: ((wsX3_serverAt_r1 ++ wsX3_serverAt_r2) ++ wsX30 ++ wsJx4a65c0)
def wsX3_leastOf : List Cond := .code yX3_leastOf cX3_leastOf 1 (some .int) :: ([])
def wsX3_greatestOf : List Cond := .code yX3_greatestOf cX3_greatestOf 1 (some .int) :: ([])
def wsX3_faultOf : List Cond := .code yX3_faultOf cX3_faultOf 3 (some .int) :: ([])
def wsX3_set_r1 : List Cond := [Cond.fieldLink RX3 63 "FrontDoor$Server" "health" "I", Cond.methodLink RX3 59 yX3_serverAt, Cond.instanceMethod yX3_serverAt, Cond.selects RX3 yX3_serverAt yX3_serverAt, Cond.initialized RX3, Cond.code yX3_serverAt cX3_serverAt 2 (some (.object "FrontDoor$Server")), Cond.fieldLink RX3 10 "FrontDoor" "servers" "Ljava/util/ArrayList;", Cond.classLink RX3 47 "FrontDoor$Server", Cond.methodLink RX3 43 yJx4a65c_size_8abf5, Cond.instanceMethod yJx4a65c_size_8abf5, Cond.selects RJx4a65c yJx4a65c_size_8abf5 yJx4a65c_size_8abf5, Cond.initialized RJx4a65c, Cond.code yJx4a65c_size_8abf5 cJx4a65c_size_8abf5 1 (some .int), Cond.fieldLink RJx4a65c 48 "java/util/ArrayList" "size" "I", Cond.methodLink RX3 151 yJx4a65c_get_915e3, Cond.instanceMethod yJx4a65c_get_915e3, Cond.selects RJx4a65c yJx4a65c_get_915e3 yJx4a65c_get_915e3, Cond.code yJx4a65c_get_915e3 cJx4a65c_get_915e3 2 (some (.object "java/lang/Object")), Cond.methodLink RJx4a65c 118 yJ15_checkIndex_7cf53, Cond.static yJ15_checkIndex_7cf53, Cond.initialized RJ15, Cond.code yJ15_checkIndex_7cf53 cJ15_checkIndex_7cf53 2 (some .int), Cond.methodLink RJ15 105 yJ3_checkIndex_8e157, Cond.static yJ3_checkIndex_8e157]
def wsX3_set_r2 : List Cond := [Cond.initialized RJ3, Cond.code yJ3_checkIndex_8e157 cJ3_checkIndex_8e157 3 (some .int), Cond.methodLink RJx4a65c 123 yJx4a65c_elementData_915e3, Cond.instanceMethod yJx4a65c_elementData_915e3, Cond.selects RJx4a65c yJx4a65c_elementData_915e3 yJx4a65c_elementData_915e3, Cond.code yJx4a65c_elementData_915e3 cJx4a65c_elementData_915e3 2 (some (.object "java/lang/Object")), Cond.fieldLink RJx4a65c 9 "java/util/ArrayList" "elementData" "[Ljava/lang/Object;", Cond.methodLink RX3 39 yX3_refuse, Cond.instanceMethod yX3_refuse, Cond.selects RX3 yX3_refuse yX3_refuse, Cond.code yX3_refuse cX3_refuse 3 (some .int), Cond.fieldLink RX3 25 "FrontDoor" "refusals" "[I", Cond.methodLink RX3 66 yX3_leastOf, Cond.static yX3_leastOf, Cond.code yX3_leastOf cX3_leastOf 1 (some .int), Cond.methodLink RX3 69 yX3_greatestOf, Cond.static yX3_greatestOf, Cond.code yX3_greatestOf cX3_greatestOf 1 (some .int), Cond.methodLink RX3 72 yX3_faultOf, Cond.static yX3_faultOf, Cond.code yX3_faultOf cX3_faultOf 3 (some .int), Cond.methodLink RX3 76 yX2_change, Cond.instanceMethod yX2_change, Cond.selects RX2 yX2_change yX2_change]
def wsX3_set_r3 : List Cond := [Cond.initialized RX2, Cond.code yX2_change cX2_change 4 (some .int), Cond.fieldLink RX2 15 "FrontDoor$Server" "weight" "I", Cond.fieldLink RX2 21 "FrontDoor$Server" "room" "I", Cond.fieldLink RX2 24 "FrontDoor$Server" "pace" "I", Cond.fieldLink RX2 27 "FrontDoor$Server" "breaks" "I", Cond.fieldLink RX2 54 "FrontDoor$Server" "mute" "I", Cond.methodLink RX2 74 yX2_tell, Cond.instanceMethod yX2_tell, Cond.selects RX2 yX2_tell yX2_tell, Cond.code yX2_tell cX2_tell 2 (some .int), Cond.fieldLink RX2 30 "FrontDoor$Server" "health" "I", Cond.fieldLink RX2 36 "FrontDoor$Server" "open" "I", Cond.fieldLink RX2 51 "FrontDoor$Server" "asked" "I", Cond.fieldLink RX2 62 "FrontDoor$Server" "answers" "I", Cond.fieldLink RX2 77 "FrontDoor$Server" "failures" "I", Cond.fieldLink RX2 65 "FrontDoor$Server" "row" "I", Cond.fieldLink RX2 68 "FrontDoor$Server" "until" "I", Cond.fieldLink RX2 33 "FrontDoor$Server" "penalty" "I", Cond.fieldLink RX2 71 "FrontDoor$Server" "outs" "I", Cond.fieldLink RX2 80 "FrontDoor$Server" "credit" "I", Cond.constant RX2 83 (1000000000), Cond.fieldLink RX2 18 "FrontDoor$Server" "zone" "I"]
def wsX3_set : List Cond := .code yX3_set cX3_set 6 (some .int) :: ((wsX3_set_r1 ++ (wsX3_set_r2 ++ wsX3_set_r3)) ++ wsX20 ++ wsX30 ++ wsJx4a65c0)
def wsX3_drain_r1 : List Cond := [Cond.fieldLink RX3 63 "FrontDoor$Server" "health" "I", Cond.fieldLink RX3 80 "FrontDoor$Server" "open" "I", Cond.methodLink RX3 59 yX3_serverAt, Cond.instanceMethod yX3_serverAt, Cond.selects RX3 yX3_serverAt yX3_serverAt, Cond.initialized RX3, Cond.code yX3_serverAt cX3_serverAt 2 (some (.object "FrontDoor$Server")), Cond.fieldLink RX3 10 "FrontDoor" "servers" "Ljava/util/ArrayList;", Cond.classLink RX3 47 "FrontDoor$Server", Cond.methodLink RX3 43 yJx4a65c_size_8abf5, Cond.instanceMethod yJx4a65c_size_8abf5, Cond.selects RJx4a65c yJx4a65c_size_8abf5 yJx4a65c_size_8abf5, Cond.initialized RJx4a65c, Cond.code yJx4a65c_size_8abf5 cJx4a65c_size_8abf5 1 (some .int), Cond.fieldLink RJx4a65c 48 "java/util/ArrayList" "size" "I", Cond.methodLink RX3 151 yJx4a65c_get_915e3, Cond.instanceMethod yJx4a65c_get_915e3, Cond.selects RJx4a65c yJx4a65c_get_915e3 yJx4a65c_get_915e3, Cond.code yJx4a65c_get_915e3 cJx4a65c_get_915e3 2 (some (.object "java/lang/Object")), Cond.methodLink RJx4a65c 118 yJ15_checkIndex_7cf53, Cond.static yJ15_checkIndex_7cf53, Cond.initialized RJ15, Cond.code yJ15_checkIndex_7cf53 cJ15_checkIndex_7cf53 2 (some .int), Cond.methodLink RJ15 105 yJ3_checkIndex_8e157]
def wsX3_drain_r2 : List Cond := [Cond.static yJ3_checkIndex_8e157, Cond.initialized RJ3, Cond.code yJ3_checkIndex_8e157 cJ3_checkIndex_8e157 3 (some .int), Cond.methodLink RJx4a65c 123 yJx4a65c_elementData_915e3, Cond.instanceMethod yJx4a65c_elementData_915e3, Cond.selects RJx4a65c yJx4a65c_elementData_915e3 yJx4a65c_elementData_915e3, Cond.code yJx4a65c_elementData_915e3 cJx4a65c_elementData_915e3 2 (some (.object "java/lang/Object")), Cond.fieldLink RJx4a65c 9 "java/util/ArrayList" "elementData" "[Ljava/lang/Object;", Cond.methodLink RX3 39 yX3_refuse, Cond.instanceMethod yX3_refuse, Cond.selects RX3 yX3_refuse yX3_refuse, Cond.code yX3_refuse cX3_refuse 3 (some .int), Cond.fieldLink RX3 25 "FrontDoor" "refusals" "[I"]
def wsX3_drain : List Cond := .code yX3_drain cX3_drain 3 (some .int) :: ((wsX3_drain_r1 ++ wsX3_drain_r2) ++ wsX20 ++ wsX30 ++ wsJx4a65c0)
def wsX3_back_r1 : List Cond := [Cond.fieldLink RX3 63 "FrontDoor$Server" "health" "I", Cond.fieldLink RX3 83 "FrontDoor$Server" "row" "I", Cond.fieldLink RX3 86 "FrontDoor$Server" "penalty" "I", Cond.methodLink RX3 59 yX3_serverAt, Cond.instanceMethod yX3_serverAt, Cond.selects RX3 yX3_serverAt yX3_serverAt, Cond.initialized RX3, Cond.code yX3_serverAt cX3_serverAt 2 (some (.object "FrontDoor$Server")), Cond.fieldLink RX3 10 "FrontDoor" "servers" "Ljava/util/ArrayList;", Cond.classLink RX3 47 "FrontDoor$Server", Cond.methodLink RX3 43 yJx4a65c_size_8abf5, Cond.instanceMethod yJx4a65c_size_8abf5, Cond.selects RJx4a65c yJx4a65c_size_8abf5 yJx4a65c_size_8abf5, Cond.initialized RJx4a65c, Cond.code yJx4a65c_size_8abf5 cJx4a65c_size_8abf5 1 (some .int), Cond.fieldLink RJx4a65c 48 "java/util/ArrayList" "size" "I", Cond.methodLink RX3 151 yJx4a65c_get_915e3, Cond.instanceMethod yJx4a65c_get_915e3, Cond.selects RJx4a65c yJx4a65c_get_915e3 yJx4a65c_get_915e3, Cond.code yJx4a65c_get_915e3 cJx4a65c_get_915e3 2 (some (.object "java/lang/Object")), Cond.methodLink RJx4a65c 118 yJ15_checkIndex_7cf53, Cond.static yJ15_checkIndex_7cf53, Cond.initialized RJ15, Cond.code yJ15_checkIndex_7cf53 cJ15_checkIndex_7cf53 2 (some .int)]
def wsX3_back_r2 : List Cond := [Cond.methodLink RJ15 105 yJ3_checkIndex_8e157, Cond.static yJ3_checkIndex_8e157, Cond.initialized RJ3, Cond.code yJ3_checkIndex_8e157 cJ3_checkIndex_8e157 3 (some .int), Cond.methodLink RJx4a65c 123 yJx4a65c_elementData_915e3, Cond.instanceMethod yJx4a65c_elementData_915e3, Cond.selects RJx4a65c yJx4a65c_elementData_915e3 yJx4a65c_elementData_915e3, Cond.code yJx4a65c_elementData_915e3 cJx4a65c_elementData_915e3 2 (some (.object "java/lang/Object")), Cond.fieldLink RJx4a65c 9 "java/util/ArrayList" "elementData" "[Ljava/lang/Object;", Cond.methodLink RX3 39 yX3_refuse, Cond.instanceMethod yX3_refuse, Cond.selects RX3 yX3_refuse yX3_refuse, Cond.code yX3_refuse cX3_refuse 3 (some .int), Cond.fieldLink RX3 25 "FrontDoor" "refusals" "[I"]
def wsX3_back : List Cond := .code yX3_back cX3_back 3 (some .int) :: ((wsX3_back_r1 ++ wsX3_back_r2) ++ wsX20 ++ wsX30 ++ wsJx4a65c0)
def wsX3_rule : List Cond := .code yX3_rule cX3_rule 3 (some .int) :: ([.fieldLink RX3 29 "FrontDoor" "ruleNow" "I", .methodLink RX3 39 yX3_refuse, .instanceMethod yX3_refuse, .selects RX3 yX3_refuse yX3_refuse, .initialized RX3, .code yX3_refuse cX3_refuse 3 (some .int), .fieldLink RX3 25 "FrontDoor" "refusals" "[I"] ++ wsX30)
def wsX3_limit : List Cond := .code yX3_limit cX3_limit 4 (some .int) :: ([.fieldLink RX3 33 "FrontDoor" "limitNow" "I", .methodLink RX3 72 yX3_faultOf, .static yX3_faultOf, .initialized RX3, .code yX3_faultOf cX3_faultOf 3 (some .int), .methodLink RX3 39 yX3_refuse, .instanceMethod yX3_refuse, .selects RX3 yX3_refuse yX3_refuse, .code yX3_refuse cX3_refuse 3 (some .int), .fieldLink RX3 25 "FrontDoor" "refusals" "[I"] ++ wsX30)
def wsX3_budget : List Cond := .code yX3_budget cX3_budget 4 (some .int) :: ([.fieldLink RX3 36 "FrontDoor" "budgetNow" "I", .methodLink RX3 72 yX3_faultOf, .static yX3_faultOf, .initialized RX3, .code yX3_faultOf cX3_faultOf 3 (some .int), .methodLink RX3 39 yX3_refuse, .instanceMethod yX3_refuse, .selects RX3 yX3_refuse yX3_refuse, .code yX3_refuse cX3_refuse 3 (some .int), .fieldLink RX3 25 "FrontDoor" "refusals" "[I"] ++ wsX30)
def wsX3_hedge : List Cond := .code yX3_hedge cX3_hedge 4 (some .int) :: ([.fieldLink RX3 89 "FrontDoor" "hedgeNow" "I", .methodLink RX3 72 yX3_faultOf, .static yX3_faultOf, .initialized RX3, .code yX3_faultOf cX3_faultOf 3 (some .int), .methodLink RX3 39 yX3_refuse, .instanceMethod yX3_refuse, .selects RX3 yX3_refuse yX3_refuse, .code yX3_refuse cX3_refuse 3 (some .int), .fieldLink RX3 25 "FrontDoor" "refusals" "[I"] ++ wsX30)
def wsX3_byTurn_r1 : List Cond := [Cond.fieldLink RX3 10 "FrontDoor" "servers" "Ljava/util/ArrayList;", Cond.classLink RX3 47 "FrontDoor$Server", Cond.fieldLink RX3 186 "FrontDoor$Server" "credit" "I", Cond.fieldLink RX3 189 "FrontDoor$Server" "weight" "I", Cond.methodLink RX3 43 yJx4a65c_size_8abf5, Cond.instanceMethod yJx4a65c_size_8abf5, Cond.selects RJx4a65c yJx4a65c_size_8abf5 yJx4a65c_size_8abf5, Cond.initialized RJx4a65c, Cond.code yJx4a65c_size_8abf5 cJx4a65c_size_8abf5 1 (some .int), Cond.fieldLink RJx4a65c 48 "java/util/ArrayList" "size" "I", Cond.methodLink RX3 151 yJx4a65c_get_915e3, Cond.instanceMethod yJx4a65c_get_915e3, Cond.selects RJx4a65c yJx4a65c_get_915e3 yJx4a65c_get_915e3, Cond.code yJx4a65c_get_915e3 cJx4a65c_get_915e3 2 (some (.object "java/lang/Object")), Cond.methodLink RJx4a65c 118 yJ15_checkIndex_7cf53, Cond.static yJ15_checkIndex_7cf53, Cond.initialized RJ15, Cond.code yJ15_checkIndex_7cf53 cJ15_checkIndex_7cf53 2 (some .int), Cond.methodLink RJ15 105 yJ3_checkIndex_8e157, Cond.static yJ3_checkIndex_8e157, Cond.initialized RJ3, Cond.code yJ3_checkIndex_8e157 cJ3_checkIndex_8e157 3 (some .int), Cond.methodLink RJx4a65c 123 yJx4a65c_elementData_915e3, Cond.instanceMethod yJx4a65c_elementData_915e3]
def wsX3_byTurn_r2 : List Cond := [Cond.selects RJx4a65c yJx4a65c_elementData_915e3 yJx4a65c_elementData_915e3, Cond.code yJx4a65c_elementData_915e3 cJx4a65c_elementData_915e3 2 (some (.object "java/lang/Object")), Cond.fieldLink RJx4a65c 9 "java/util/ArrayList" "elementData" "[Ljava/lang/Object;", Cond.methodLink RX3 182 yX2_mayBeAsked, Cond.instanceMethod yX2_mayBeAsked, Cond.selects RX2 yX2_mayBeAsked yX2_mayBeAsked, Cond.initialized RX2, Cond.code yX2_mayBeAsked cX2_mayBeAsked 2 (some .boolean), Cond.fieldLink RX2 9 "FrontDoor$Server" "number" "I", Cond.fieldLink RX2 36 "FrontDoor$Server" "open" "I", Cond.fieldLink RX2 21 "FrontDoor$Server" "room" "I", Cond.fieldLink RX2 30 "FrontDoor$Server" "health" "I"]
def wsX3_byTurn : List Cond := .code yX3_byTurn cX3_byTurn 5 (some (.object "FrontDoor$Server")) :: ((wsX3_byTurn_r1 ++ wsX3_byTurn_r2) ++ wsX30 ++ wsX20 ++ wsJx4a65c0)
def wsX3_byRing_r1 : List Cond := [Cond.constant RX3 195 (65536), Cond.fieldLink RX3 10 "FrontDoor" "servers" "Ljava/util/ArrayList;", Cond.classLink RX3 47 "FrontDoor$Server", Cond.methodLink RX3 43 yJx4a65c_size_8abf5, Cond.instanceMethod yJx4a65c_size_8abf5, Cond.selects RJx4a65c yJx4a65c_size_8abf5 yJx4a65c_size_8abf5, Cond.initialized RJx4a65c, Cond.code yJx4a65c_size_8abf5 cJx4a65c_size_8abf5 1 (some .int), Cond.fieldLink RJx4a65c 48 "java/util/ArrayList" "size" "I", Cond.methodLink RX3 151 yJx4a65c_get_915e3, Cond.instanceMethod yJx4a65c_get_915e3, Cond.selects RJx4a65c yJx4a65c_get_915e3 yJx4a65c_get_915e3, Cond.code yJx4a65c_get_915e3 cJx4a65c_get_915e3 2 (some (.object "java/lang/Object")), Cond.methodLink RJx4a65c 118 yJ15_checkIndex_7cf53, Cond.static yJ15_checkIndex_7cf53, Cond.initialized RJ15, Cond.code yJ15_checkIndex_7cf53 cJ15_checkIndex_7cf53 2 (some .int), Cond.methodLink RJ15 105 yJ3_checkIndex_8e157, Cond.static yJ3_checkIndex_8e157, Cond.initialized RJ3, Cond.code yJ3_checkIndex_8e157 cJ3_checkIndex_8e157 3 (some .int), Cond.methodLink RJx4a65c 123 yJx4a65c_elementData_915e3, Cond.instanceMethod yJx4a65c_elementData_915e3, Cond.selects RJx4a65c yJx4a65c_elementData_915e3 yJx4a65c_elementData_915e3]
def wsX3_byRing_r2 : List Cond := [Cond.code yJx4a65c_elementData_915e3 cJx4a65c_elementData_915e3 2 (some (.object "java/lang/Object")), Cond.fieldLink RJx4a65c 9 "java/util/ArrayList" "elementData" "[Ljava/lang/Object;", Cond.methodLink RX3 182 yX2_mayBeAsked, Cond.instanceMethod yX2_mayBeAsked, Cond.selects RX2 yX2_mayBeAsked yX2_mayBeAsked, Cond.initialized RX2, Cond.code yX2_mayBeAsked cX2_mayBeAsked 2 (some .boolean), Cond.fieldLink RX2 9 "FrontDoor$Server" "number" "I", Cond.fieldLink RX2 36 "FrontDoor$Server" "open" "I", Cond.fieldLink RX2 21 "FrontDoor$Server" "room" "I", Cond.fieldLink RX2 30 "FrontDoor$Server" "health" "I", Cond.methodLink RX3 196 yX2_wayFrom, Cond.instanceMethod yX2_wayFrom, Cond.selects RX2 yX2_wayFrom yX2_wayFrom, Cond.code yX2_wayFrom cX2_wayFrom 4 (some .int), Cond.constant RX2 40 (65535), Cond.methodLink RX2 45 Lib.Math.min.name, Cond.static Lib.Math.min.name, Cond.initialized "java/lang/Math", Cond.code Lib.Math.min.name Lib.Math.min.code 2 (some .int), Cond.methodLink RX2 41 yX2_placeOfMark, Cond.instanceMethod yX2_placeOfMark, Cond.selects RX2 yX2_placeOfMark yX2_placeOfMark, Cond.code yX2_placeOfMark cX2_placeOfMark 2 (some .int)]
def wsX3_byRing_r3 : List Cond := [Cond.constant RX2 39 (40503)]
def wsX3_byRing : List Cond := .code yX3_byRing cX3_byRing 7 (some (.object "FrontDoor$Server")) :: ((wsX3_byRing_r1 ++ (wsX3_byRing_r2 ++ wsX3_byRing_r3)) ++ wsX30 ++ wsJx4a65c0 ++ wsX20)
def wsX3_byFewest_r1 : List Cond := [Cond.fieldLink RX3 10 "FrontDoor" "servers" "Ljava/util/ArrayList;", Cond.classLink RX3 47 "FrontDoor$Server", Cond.fieldLink RX3 192 "FrontDoor$Server" "zone" "I", Cond.fieldLink RX3 80 "FrontDoor$Server" "open" "I", Cond.fieldLink RX3 189 "FrontDoor$Server" "weight" "I", Cond.methodLink RX3 43 yJx4a65c_size_8abf5, Cond.instanceMethod yJx4a65c_size_8abf5, Cond.selects RJx4a65c yJx4a65c_size_8abf5 yJx4a65c_size_8abf5, Cond.initialized RJx4a65c, Cond.code yJx4a65c_size_8abf5 cJx4a65c_size_8abf5 1 (some .int), Cond.fieldLink RJx4a65c 48 "java/util/ArrayList" "size" "I", Cond.methodLink RX3 151 yJx4a65c_get_915e3, Cond.instanceMethod yJx4a65c_get_915e3, Cond.selects RJx4a65c yJx4a65c_get_915e3 yJx4a65c_get_915e3, Cond.code yJx4a65c_get_915e3 cJx4a65c_get_915e3 2 (some (.object "java/lang/Object")), Cond.methodLink RJx4a65c 118 yJ15_checkIndex_7cf53, Cond.static yJ15_checkIndex_7cf53, Cond.initialized RJ15, Cond.code yJ15_checkIndex_7cf53 cJ15_checkIndex_7cf53 2 (some .int), Cond.methodLink RJ15 105 yJ3_checkIndex_8e157, Cond.static yJ3_checkIndex_8e157, Cond.initialized RJ3, Cond.code yJ3_checkIndex_8e157 cJ3_checkIndex_8e157 3 (some .int), Cond.methodLink RJx4a65c 123 yJx4a65c_elementData_915e3]
def wsX3_byFewest_r2 : List Cond := [Cond.instanceMethod yJx4a65c_elementData_915e3, Cond.selects RJx4a65c yJx4a65c_elementData_915e3 yJx4a65c_elementData_915e3, Cond.code yJx4a65c_elementData_915e3 cJx4a65c_elementData_915e3 2 (some (.object "java/lang/Object")), Cond.fieldLink RJx4a65c 9 "java/util/ArrayList" "elementData" "[Ljava/lang/Object;", Cond.methodLink RX3 182 yX2_mayBeAsked, Cond.instanceMethod yX2_mayBeAsked, Cond.selects RX2 yX2_mayBeAsked yX2_mayBeAsked, Cond.initialized RX2, Cond.code yX2_mayBeAsked cX2_mayBeAsked 2 (some .boolean), Cond.fieldLink RX2 9 "FrontDoor$Server" "number" "I", Cond.fieldLink RX2 36 "FrontDoor$Server" "open" "I", Cond.fieldLink RX2 21 "FrontDoor$Server" "room" "I", Cond.fieldLink RX2 30 "FrontDoor$Server" "health" "I"]
def wsX3_byFewest : List Cond := .code yX3_byFewest cX3_byFewest 7 (some (.object "FrontDoor$Server")) :: ((wsX3_byFewest_r1 ++ wsX3_byFewest_r2) ++ wsX30 ++ wsX20 ++ wsJx4a65c0)
def wsX3_chosen_r1 : List Cond := [Cond.fieldLink RX3 29 "FrontDoor" "ruleNow" "I", Cond.methodLink RX3 173 yX3_byTurn, Cond.instanceMethod yX3_byTurn, Cond.selects RX3 yX3_byTurn yX3_byTurn, Cond.initialized RX3, Cond.code yX3_byTurn cX3_byTurn 5 (some (.object "FrontDoor$Server")), Cond.fieldLink RX3 10 "FrontDoor" "servers" "Ljava/util/ArrayList;", Cond.classLink RX3 47 "FrontDoor$Server", Cond.fieldLink RX3 186 "FrontDoor$Server" "credit" "I", Cond.fieldLink RX3 189 "FrontDoor$Server" "weight" "I", Cond.methodLink RX3 43 yJx4a65c_size_8abf5, Cond.instanceMethod yJx4a65c_size_8abf5, Cond.selects RJx4a65c yJx4a65c_size_8abf5 yJx4a65c_size_8abf5, Cond.initialized RJx4a65c, Cond.code yJx4a65c_size_8abf5 cJx4a65c_size_8abf5 1 (some .int), Cond.fieldLink RJx4a65c 48 "java/util/ArrayList" "size" "I", Cond.methodLink RX3 151 yJx4a65c_get_915e3, Cond.instanceMethod yJx4a65c_get_915e3, Cond.selects RJx4a65c yJx4a65c_get_915e3 yJx4a65c_get_915e3, Cond.code yJx4a65c_get_915e3 cJx4a65c_get_915e3 2 (some (.object "java/lang/Object")), Cond.methodLink RJx4a65c 118 yJ15_checkIndex_7cf53, Cond.static yJ15_checkIndex_7cf53, Cond.initialized RJ15, Cond.code yJ15_checkIndex_7cf53 cJ15_checkIndex_7cf53 2 (some .int)]
def wsX3_chosen_r2 : List Cond := [Cond.methodLink RJ15 105 yJ3_checkIndex_8e157, Cond.static yJ3_checkIndex_8e157, Cond.initialized RJ3, Cond.code yJ3_checkIndex_8e157 cJ3_checkIndex_8e157 3 (some .int), Cond.methodLink RJx4a65c 123 yJx4a65c_elementData_915e3, Cond.instanceMethod yJx4a65c_elementData_915e3, Cond.selects RJx4a65c yJx4a65c_elementData_915e3 yJx4a65c_elementData_915e3, Cond.code yJx4a65c_elementData_915e3 cJx4a65c_elementData_915e3 2 (some (.object "java/lang/Object")), Cond.fieldLink RJx4a65c 9 "java/util/ArrayList" "elementData" "[Ljava/lang/Object;", Cond.methodLink RX3 182 yX2_mayBeAsked, Cond.instanceMethod yX2_mayBeAsked, Cond.selects RX2 yX2_mayBeAsked yX2_mayBeAsked, Cond.initialized RX2, Cond.code yX2_mayBeAsked cX2_mayBeAsked 2 (some .boolean), Cond.fieldLink RX2 9 "FrontDoor$Server" "number" "I", Cond.fieldLink RX2 36 "FrontDoor$Server" "open" "I", Cond.fieldLink RX2 21 "FrontDoor$Server" "room" "I", Cond.fieldLink RX2 30 "FrontDoor$Server" "health" "I", Cond.methodLink RX3 176 yX3_byRing, Cond.instanceMethod yX3_byRing, Cond.selects RX3 yX3_byRing yX3_byRing, Cond.code yX3_byRing cX3_byRing 7 (some (.object "FrontDoor$Server")), Cond.constant RX3 195 (65536), Cond.methodLink RX3 196 yX2_wayFrom]
def wsX3_chosen_r3 : List Cond := [Cond.instanceMethod yX2_wayFrom, Cond.selects RX2 yX2_wayFrom yX2_wayFrom, Cond.code yX2_wayFrom cX2_wayFrom 4 (some .int), Cond.constant RX2 40 (65535), Cond.methodLink RX2 45 Lib.Math.min.name, Cond.static Lib.Math.min.name, Cond.initialized "java/lang/Math", Cond.code Lib.Math.min.name Lib.Math.min.code 2 (some .int), Cond.methodLink RX2 41 yX2_placeOfMark, Cond.instanceMethod yX2_placeOfMark, Cond.selects RX2 yX2_placeOfMark yX2_placeOfMark, Cond.code yX2_placeOfMark cX2_placeOfMark 2 (some .int), Cond.constant RX2 39 (40503), Cond.methodLink RX3 179 yX3_byFewest, Cond.instanceMethod yX3_byFewest, Cond.selects RX3 yX3_byFewest yX3_byFewest, Cond.code yX3_byFewest cX3_byFewest 7 (some (.object "FrontDoor$Server")), Cond.fieldLink RX3 192 "FrontDoor$Server" "zone" "I", Cond.fieldLink RX3 80 "FrontDoor$Server" "open" "I"]
def wsX3_chosen : List Cond := .code yX3_chosen cX3_chosen 4 (some (.object "FrontDoor$Server")) :: ((wsX3_chosen_r1 ++ (wsX3_chosen_r2 ++ wsX3_chosen_r3)) ++ wsX30 ++ wsX20 ++ wsJx4a65c0)
def wsX3_settleCredits_r1 : List Cond := [Cond.fieldLink RX3 10 "FrontDoor" "servers" "Ljava/util/ArrayList;", Cond.classLink RX3 47 "FrontDoor$Server", Cond.fieldLink RX3 186 "FrontDoor$Server" "credit" "I", Cond.fieldLink RX3 189 "FrontDoor$Server" "weight" "I", Cond.methodLink RX3 43 yJx4a65c_size_8abf5, Cond.instanceMethod yJx4a65c_size_8abf5, Cond.selects RJx4a65c yJx4a65c_size_8abf5 yJx4a65c_size_8abf5, Cond.initialized RJx4a65c, Cond.code yJx4a65c_size_8abf5 cJx4a65c_size_8abf5 1 (some .int), Cond.fieldLink RJx4a65c 48 "java/util/ArrayList" "size" "I", Cond.methodLink RX3 151 yJx4a65c_get_915e3, Cond.instanceMethod yJx4a65c_get_915e3, Cond.selects RJx4a65c yJx4a65c_get_915e3 yJx4a65c_get_915e3, Cond.code yJx4a65c_get_915e3 cJx4a65c_get_915e3 2 (some (.object "java/lang/Object")), Cond.methodLink RJx4a65c 118 yJ15_checkIndex_7cf53, Cond.static yJ15_checkIndex_7cf53, Cond.initialized RJ15, Cond.code yJ15_checkIndex_7cf53 cJ15_checkIndex_7cf53 2 (some .int), Cond.methodLink RJ15 105 yJ3_checkIndex_8e157, Cond.static yJ3_checkIndex_8e157, Cond.initialized RJ3, Cond.code yJ3_checkIndex_8e157 cJ3_checkIndex_8e157 3 (some .int), Cond.methodLink RJx4a65c 123 yJx4a65c_elementData_915e3, Cond.instanceMethod yJx4a65c_elementData_915e3]
def wsX3_settleCredits_r2 : List Cond := [Cond.selects RJx4a65c yJx4a65c_elementData_915e3 yJx4a65c_elementData_915e3, Cond.code yJx4a65c_elementData_915e3 cJx4a65c_elementData_915e3 2 (some (.object "java/lang/Object")), Cond.fieldLink RJx4a65c 9 "java/util/ArrayList" "elementData" "[Ljava/lang/Object;", Cond.methodLink RX3 182 yX2_mayBeAsked, Cond.instanceMethod yX2_mayBeAsked, Cond.selects RX2 yX2_mayBeAsked yX2_mayBeAsked, Cond.initialized RX2, Cond.code yX2_mayBeAsked cX2_mayBeAsked 2 (some .boolean), Cond.fieldLink RX2 9 "FrontDoor$Server" "number" "I", Cond.fieldLink RX2 36 "FrontDoor$Server" "open" "I", Cond.fieldLink RX2 21 "FrontDoor$Server" "room" "I", Cond.fieldLink RX2 30 "FrontDoor$Server" "health" "I"]
def wsX3_settleCredits : List Cond := .code yX3_settleCredits cX3_settleCredits 6 none :: ((wsX3_settleCredits_r1 ++ wsX3_settleCredits_r2) ++ wsX30 ++ wsX20 ++ wsJx4a65c0)
def wsX3_askByRule_r1 : List Cond := [Cond.fieldLink RX3 199 "FrontDoor$Call" "key" "I", Cond.fieldLink RX3 202 "FrontDoor$Call" "tried" "I", Cond.fieldLink RX3 29 "FrontDoor" "ruleNow" "I", Cond.fieldLink RX3 95 "FrontDoor" "tick" "I", Cond.methodLink RX3 140 yX3_chosen, Cond.instanceMethod yX3_chosen, Cond.selects RX3 yX3_chosen yX3_chosen, Cond.initialized RX3, Cond.code yX3_chosen cX3_chosen 4 (some (.object "FrontDoor$Server")), Cond.methodLink RX3 173 yX3_byTurn, Cond.instanceMethod yX3_byTurn, Cond.selects RX3 yX3_byTurn yX3_byTurn, Cond.code yX3_byTurn cX3_byTurn 5 (some (.object "FrontDoor$Server")), Cond.fieldLink RX3 10 "FrontDoor" "servers" "Ljava/util/ArrayList;", Cond.classLink RX3 47 "FrontDoor$Server", Cond.fieldLink RX3 186 "FrontDoor$Server" "credit" "I", Cond.fieldLink RX3 189 "FrontDoor$Server" "weight" "I", Cond.methodLink RX3 43 yJx4a65c_size_8abf5, Cond.instanceMethod yJx4a65c_size_8abf5, Cond.selects RJx4a65c yJx4a65c_size_8abf5 yJx4a65c_size_8abf5, Cond.initialized RJx4a65c, Cond.code yJx4a65c_size_8abf5 cJx4a65c_size_8abf5 1 (some .int), Cond.fieldLink RJx4a65c 48 "java/util/ArrayList" "size" "I", Cond.methodLink RX3 151 yJx4a65c_get_915e3]
def wsX3_askByRule_r2 : List Cond := [Cond.instanceMethod yJx4a65c_get_915e3, Cond.selects RJx4a65c yJx4a65c_get_915e3 yJx4a65c_get_915e3, Cond.code yJx4a65c_get_915e3 cJx4a65c_get_915e3 2 (some (.object "java/lang/Object")), Cond.methodLink RJx4a65c 118 yJ15_checkIndex_7cf53, Cond.static yJ15_checkIndex_7cf53, Cond.initialized RJ15, Cond.code yJ15_checkIndex_7cf53 cJ15_checkIndex_7cf53 2 (some .int), Cond.methodLink RJ15 105 yJ3_checkIndex_8e157, Cond.static yJ3_checkIndex_8e157, Cond.initialized RJ3, Cond.code yJ3_checkIndex_8e157 cJ3_checkIndex_8e157 3 (some .int), Cond.methodLink RJx4a65c 123 yJx4a65c_elementData_915e3, Cond.instanceMethod yJx4a65c_elementData_915e3, Cond.selects RJx4a65c yJx4a65c_elementData_915e3 yJx4a65c_elementData_915e3, Cond.code yJx4a65c_elementData_915e3 cJx4a65c_elementData_915e3 2 (some (.object "java/lang/Object")), Cond.fieldLink RJx4a65c 9 "java/util/ArrayList" "elementData" "[Ljava/lang/Object;", Cond.methodLink RX3 182 yX2_mayBeAsked, Cond.instanceMethod yX2_mayBeAsked, Cond.selects RX2 yX2_mayBeAsked yX2_mayBeAsked, Cond.initialized RX2, Cond.code yX2_mayBeAsked cX2_mayBeAsked 2 (some .boolean), Cond.fieldLink RX2 9 "FrontDoor$Server" "number" "I", Cond.fieldLink RX2 36 "FrontDoor$Server" "open" "I", Cond.fieldLink RX2 21 "FrontDoor$Server" "room" "I"]
def wsX3_askByRule_r3 : List Cond := [Cond.fieldLink RX2 30 "FrontDoor$Server" "health" "I", Cond.methodLink RX3 176 yX3_byRing, Cond.instanceMethod yX3_byRing, Cond.selects RX3 yX3_byRing yX3_byRing, Cond.code yX3_byRing cX3_byRing 7 (some (.object "FrontDoor$Server")), Cond.constant RX3 195 (65536), Cond.methodLink RX3 196 yX2_wayFrom, Cond.instanceMethod yX2_wayFrom, Cond.selects RX2 yX2_wayFrom yX2_wayFrom, Cond.code yX2_wayFrom cX2_wayFrom 4 (some .int), Cond.constant RX2 40 (65535), Cond.methodLink RX2 45 Lib.Math.min.name, Cond.static Lib.Math.min.name, Cond.initialized "java/lang/Math", Cond.code Lib.Math.min.name Lib.Math.min.code 2 (some .int), Cond.methodLink RX2 41 yX2_placeOfMark, Cond.instanceMethod yX2_placeOfMark, Cond.selects RX2 yX2_placeOfMark yX2_placeOfMark, Cond.code yX2_placeOfMark cX2_placeOfMark 2 (some .int), Cond.constant RX2 39 (40503), Cond.methodLink RX3 179 yX3_byFewest, Cond.instanceMethod yX3_byFewest, Cond.selects RX3 yX3_byFewest yX3_byFewest, Cond.code yX3_byFewest cX3_byFewest 7 (some (.object "FrontDoor$Server"))]
def wsX3_askByRule_r4 : List Cond := [Cond.fieldLink RX3 192 "FrontDoor$Server" "zone" "I", Cond.fieldLink RX3 80 "FrontDoor$Server" "open" "I", Cond.methodLink RX3 205 yX3_settleCredits, Cond.instanceMethod yX3_settleCredits, Cond.selects RX3 yX3_settleCredits yX3_settleCredits, Cond.code yX3_settleCredits cX3_settleCredits 6 none, Cond.methodLink RX3 209 yX2_takeAsking, Cond.instanceMethod yX2_takeAsking, Cond.selects RX2 yX2_takeAsking yX2_takeAsking, Cond.code yX2_takeAsking cX2_takeAsking 4 (some (.object "FrontDoor$Asking")), Cond.fieldLink RX2 51 "FrontDoor$Server" "asked" "I", Cond.fieldLink RX2 54 "FrontDoor$Server" "mute" "I", Cond.fieldLink RX2 24 "FrontDoor$Server" "pace" "I", Cond.fieldLink RX2 27 "FrontDoor$Server" "breaks" "I", Cond.classLink RX2 57 RX0, Cond.instantiable RX0 4, Cond.initialized RX0, Cond.methodLink RX2 59 yX0_init, Cond.instanceMethod yX0_init, Cond.code yX0_init cX0_init 5 none, Cond.methodLink RX0 1 objectInit, Cond.instanceMethod objectInit, Cond.code objectInit ⟨#[0xb1]⟩ 1 none, Cond.fieldLink RX0 7 "FrontDoor$Asking" "server" "LFrontDoor$Server;"]
def wsX3_askByRule_r5 : List Cond := [Cond.fieldLink RX0 13 "FrontDoor$Asking" "since" "I", Cond.fieldLink RX0 17 "FrontDoor$Asking" "over" "I", Cond.fieldLink RX0 20 "FrontDoor$Asking" "fails" "Z", Cond.methodLink RX3 213 yX1_begin, Cond.instanceMethod yX1_begin, Cond.selects RX1 yX1_begin yX1_begin, Cond.initialized RX1, Cond.code yX1_begin cX1_begin 2 none, Cond.fieldLink RX1 40 "FrontDoor$Call" "first" "LFrontDoor$Asking;", Cond.fieldLink RX1 44 "FrontDoor$Call" "second" "LFrontDoor$Asking;", Cond.fieldLink RX1 47 "FrontDoor$Call" "tried" "I", Cond.fieldLink RX1 50 "FrontDoor$Asking" "server" "LFrontDoor$Server;", Cond.fieldLink RX1 56 "FrontDoor$Server" "number" "I", Cond.fieldLink RX1 31 "FrontDoor$Call" "state" "I"]
def wsX3_askByRule : List Cond := .code yX3_askByRule cX3_askByRule 3 (some .boolean) :: ((wsX3_askByRule_r1 ++ (wsX3_askByRule_r2 ++ (wsX3_askByRule_r3 ++ (wsX3_askByRule_r4 ++ wsX3_askByRule_r5)))) ++ wsX10 ++ wsX30 ++ wsX20 ++ wsJx4a65c0 ++ wsX00)
def wsJx4a65c_rangeCheckForAdd_d00df : List Cond := .code yJx4a65c_rangeCheckForAdd_d00df cJx4a65c_rangeCheckForAdd_d00df 2 none :: ([.fieldLink RJx4a65c 48 "java/util/ArrayList" "size" "I"] ++ wsJx4a65c0)
def wsJx4a65c_add_7a177_r1 : List Cond := [Cond.fieldLink RJx4a65c 63 "java/util/ArrayList" "modCount" "I", Cond.sameField "java/util/ArrayList" "java/util/AbstractList" "modCount" "I", Cond.fieldLink RJx4a65c 48 "java/util/ArrayList" "size" "I", Cond.fieldLink RJx4a65c 9 "java/util/ArrayList" "elementData" "[Ljava/lang/Object;", Cond.methodLink RJx4a65c 112 arraycopyName, Cond.native arraycopyName, Cond.static arraycopyName, Cond.initialized "java/lang/System", Cond.methodLink RJx4a65c 135 yJx4a65c_rangeCheckForAdd_d00df, Cond.instanceMethod yJx4a65c_rangeCheckForAdd_d00df, Cond.selects RJx4a65c yJx4a65c_rangeCheckForAdd_d00df yJx4a65c_rangeCheckForAdd_d00df, Cond.initialized RJx4a65c, Cond.code yJx4a65c_rangeCheckForAdd_d00df cJx4a65c_rangeCheckForAdd_d00df 2 none, Cond.methodLink RJx4a65c 129 yJx4a65c_grow_d5877, Cond.instanceMethod yJx4a65c_grow_d5877, Cond.selects RJx4a65c yJx4a65c_grow_d5877 yJx4a65c_grow_d5877, Cond.code yJx4a65c_grow_d5877 cJx4a65c_grow_d5877 1 (some (.array (.object "java/lang/Object"))), Cond.methodLink RJx4a65c 69 yJx4a65c_grow_92f84, Cond.instanceMethod yJx4a65c_grow_92f84, Cond.selects RJx4a65c yJx4a65c_grow_92f84 yJx4a65c_grow_92f84, Cond.code yJx4a65c_grow_92f84 cJx4a65c_grow_92f84 4 (some (.array (.object "java/lang/Object"))), Cond.fieldLink RJx4a65c 39 "java/util/ArrayList" "DEFAULTCAPACITY_EMPTY_ELEMENTDATA" "[Ljava/lang/Object;", Cond.methodLink RJx4a65c 79 Lib.Math.max.name, Cond.static Lib.Math.max.name]
def wsJx4a65c_add_7a177_r2 : List Cond := [Cond.initialized "java/lang/Math", Cond.code Lib.Math.max.name Lib.Math.max.code 2 (some .int), Cond.classLink RJx4a65c 7 "java/lang/Object", Cond.methodLink RJx4a65c 73 yJ8_newLength_cabcc, Cond.static yJ8_newLength_cabcc, Cond.initialized RJ8, Cond.code yJ8_newLength_cabcc cJ8_newLength_cabcc 4 (some .int), Cond.methodLink RJ8 194 Lib.Math.max.name, Cond.constant RJ8 200 (2147483639), Cond.methodLink RJ8 201 yJ8_hugeLength_7cf53, Cond.static yJ8_hugeLength_7cf53, Cond.code yJ8_hugeLength_7cf53 cJ8_hugeLength_7cf53 3 (some .int), Cond.methodLink RJx4a65c 66 yJ7_copyOf_1904c, Cond.static yJ7_copyOf_1904c, Cond.initialized RJ7, Cond.code yJ7_copyOf_1904c cJ7_copyOf_1904c 2 (some (.array (.object "java/lang/Object"))), Cond.methodLink RJ7 86 ⟨"java/lang/Object", "getClass", "()Ljava/lang/Class;"⟩, Cond.selects "[Ljava/lang/Object;" ⟨"java/lang/Object", "getClass", "()Ljava/lang/Class;"⟩ ⟨"java/lang/Object", "getClass", "()Ljava/lang/Class;"⟩, Cond.instanceMethod ⟨"java/lang/Object", "getClass", "()Ljava/lang/Class;"⟩, Cond.native ⟨"java/lang/Object", "getClass", "()Ljava/lang/Class;"⟩, Cond.methodLink RJ7 300 yJ7_copyOf_6403c, Cond.static yJ7_copyOf_6403c, Cond.code yJ7_copyOf_6403c cJ7_copyOf_6403c 4 (some (.array (.object "java/lang/Object"))), Cond.classLink RJ7 110 "[Ljava/lang/Object;"]
def wsJx4a65c_add_7a177_r3 : List Cond := [Cond.classLink RJ7 2 "java/lang/Object", Cond.methodLink RJ7 304 Lib.Math.min.name, Cond.static Lib.Math.min.name, Cond.code Lib.Math.min.name Lib.Math.min.code 2 (some .int), Cond.methodLink RJ7 150 arraycopyName]
def wsJx4a65c_add_7a177 : List Cond := .code yJx4a65c_add_7a177 cJx4a65c_add_7a177 5 none :: ((wsJx4a65c_add_7a177_r1 ++ (wsJx4a65c_add_7a177_r2 ++ wsJx4a65c_add_7a177_r3)) ++ wsJx4a65c0)
def wsX3_joinLine_r1 : List Cond := [Cond.fieldLink RX3 118 "FrontDoor$Call" "state" "I", Cond.fieldLink RX3 22 "FrontDoor" "line" "Ljava/util/ArrayList;", Cond.classLink RX3 93 "FrontDoor$Call", Cond.methodLink RX3 43 yJx4a65c_size_8abf5, Cond.instanceMethod yJx4a65c_size_8abf5, Cond.selects RJx4a65c yJx4a65c_size_8abf5 yJx4a65c_size_8abf5, Cond.initialized RJx4a65c, Cond.code yJx4a65c_size_8abf5 cJx4a65c_size_8abf5 1 (some .int), Cond.fieldLink RJx4a65c 48 "java/util/ArrayList" "size" "I", Cond.methodLink RX3 151 yJx4a65c_get_915e3, Cond.instanceMethod yJx4a65c_get_915e3, Cond.selects RJx4a65c yJx4a65c_get_915e3 yJx4a65c_get_915e3, Cond.code yJx4a65c_get_915e3 cJx4a65c_get_915e3 2 (some (.object "java/lang/Object")), Cond.methodLink RJx4a65c 118 yJ15_checkIndex_7cf53, Cond.static yJ15_checkIndex_7cf53, Cond.initialized RJ15, Cond.code yJ15_checkIndex_7cf53 cJ15_checkIndex_7cf53 2 (some .int), Cond.methodLink RJ15 105 yJ3_checkIndex_8e157, Cond.static yJ3_checkIndex_8e157, Cond.initialized RJ3, Cond.code yJ3_checkIndex_8e157 cJ3_checkIndex_8e157 3 (some .int), Cond.methodLink RJx4a65c 123 yJx4a65c_elementData_915e3, Cond.instanceMethod yJx4a65c_elementData_915e3, Cond.selects RJx4a65c yJx4a65c_elementData_915e3 yJx4a65c_elementData_915e3]
def wsX3_joinLine_r2 : List Cond := [Cond.code yJx4a65c_elementData_915e3 cJx4a65c_elementData_915e3 2 (some (.object "java/lang/Object")), Cond.fieldLink RJx4a65c 9 "java/util/ArrayList" "elementData" "[Ljava/lang/Object;", Cond.methodLink RX3 217 yX1_goesAheadOf, Cond.instanceMethod yX1_goesAheadOf, Cond.selects RX1 yX1_goesAheadOf yX1_goesAheadOf, Cond.initialized RX1, Cond.code yX1_goesAheadOf cX1_goesAheadOf 2 (some .boolean), Cond.fieldLink RX1 18 "FrontDoor$Call" "grade" "I", Cond.fieldLink RX1 24 "FrontDoor$Call" "due" "I", Cond.fieldLink RX1 9 "FrontDoor$Call" "number" "I", Cond.methodLink RX3 220 yJx4a65c_add_7a177, Cond.instanceMethod yJx4a65c_add_7a177, Cond.selects RJx4a65c yJx4a65c_add_7a177 yJx4a65c_add_7a177, Cond.code yJx4a65c_add_7a177 cJx4a65c_add_7a177 5 none, Cond.fieldLink RJx4a65c 63 "java/util/ArrayList" "modCount" "I", Cond.sameField "java/util/ArrayList" "java/util/AbstractList" "modCount" "I", Cond.methodLink RJx4a65c 112 arraycopyName, Cond.native arraycopyName, Cond.static arraycopyName, Cond.initialized "java/lang/System", Cond.methodLink RJx4a65c 135 yJx4a65c_rangeCheckForAdd_d00df, Cond.instanceMethod yJx4a65c_rangeCheckForAdd_d00df, Cond.selects RJx4a65c yJx4a65c_rangeCheckForAdd_d00df yJx4a65c_rangeCheckForAdd_d00df, Cond.code yJx4a65c_rangeCheckForAdd_d00df cJx4a65c_rangeCheckForAdd_d00df 2 none]
def wsX3_joinLine_r3 : List Cond := [Cond.methodLink RJx4a65c 129 yJx4a65c_grow_d5877, Cond.instanceMethod yJx4a65c_grow_d5877, Cond.selects RJx4a65c yJx4a65c_grow_d5877 yJx4a65c_grow_d5877, Cond.code yJx4a65c_grow_d5877 cJx4a65c_grow_d5877 1 (some (.array (.object "java/lang/Object"))), Cond.methodLink RJx4a65c 69 yJx4a65c_grow_92f84, Cond.instanceMethod yJx4a65c_grow_92f84, Cond.selects RJx4a65c yJx4a65c_grow_92f84 yJx4a65c_grow_92f84, Cond.code yJx4a65c_grow_92f84 cJx4a65c_grow_92f84 4 (some (.array (.object "java/lang/Object"))), Cond.fieldLink RJx4a65c 39 "java/util/ArrayList" "DEFAULTCAPACITY_EMPTY_ELEMENTDATA" "[Ljava/lang/Object;", Cond.methodLink RJx4a65c 79 Lib.Math.max.name, Cond.static Lib.Math.max.name, Cond.initialized "java/lang/Math", Cond.code Lib.Math.max.name Lib.Math.max.code 2 (some .int), Cond.classLink RJx4a65c 7 "java/lang/Object", Cond.methodLink RJx4a65c 73 yJ8_newLength_cabcc, Cond.static yJ8_newLength_cabcc, Cond.initialized RJ8, Cond.code yJ8_newLength_cabcc cJ8_newLength_cabcc 4 (some .int), Cond.methodLink RJ8 194 Lib.Math.max.name, Cond.constant RJ8 200 (2147483639), Cond.methodLink RJ8 201 yJ8_hugeLength_7cf53, Cond.static yJ8_hugeLength_7cf53, Cond.code yJ8_hugeLength_7cf53 cJ8_hugeLength_7cf53 3 (some .int), Cond.methodLink RJx4a65c 66 yJ7_copyOf_1904c]
def wsX3_joinLine_r4 : List Cond := [Cond.static yJ7_copyOf_1904c, Cond.initialized RJ7, Cond.code yJ7_copyOf_1904c cJ7_copyOf_1904c 2 (some (.array (.object "java/lang/Object"))), Cond.methodLink RJ7 86 ⟨"java/lang/Object", "getClass", "()Ljava/lang/Class;"⟩, Cond.selects "[Ljava/lang/Object;" ⟨"java/lang/Object", "getClass", "()Ljava/lang/Class;"⟩ ⟨"java/lang/Object", "getClass", "()Ljava/lang/Class;"⟩, Cond.instanceMethod ⟨"java/lang/Object", "getClass", "()Ljava/lang/Class;"⟩, Cond.native ⟨"java/lang/Object", "getClass", "()Ljava/lang/Class;"⟩, Cond.methodLink RJ7 300 yJ7_copyOf_6403c, Cond.static yJ7_copyOf_6403c, Cond.code yJ7_copyOf_6403c cJ7_copyOf_6403c 4 (some (.array (.object "java/lang/Object"))), Cond.classLink RJ7 110 "[Ljava/lang/Object;", Cond.classLink RJ7 2 "java/lang/Object", Cond.methodLink RJ7 304 Lib.Math.min.name, Cond.static Lib.Math.min.name, Cond.code Lib.Math.min.name Lib.Math.min.code 2 (some .int), Cond.methodLink RJ7 150 arraycopyName]
def wsX3_joinLine : List Cond := .code yX3_joinLine cX3_joinLine 3 none :: ((wsX3_joinLine_r1 ++ (wsX3_joinLine_r2 ++ (wsX3_joinLine_r3 ++ wsX3_joinLine_r4))) ++ wsX10 ++ wsX30 ++ wsJx4a65c0)
def wsX3_call_r1 : List Cond := [Cond.constant RX3 92 (65535), Cond.fieldLink RX3 16 "FrontDoor" "calls" "Ljava/util/ArrayList;", Cond.classLink RX3 93 RX1, Cond.instantiable RX1 12, Cond.initialized RX1, Cond.fieldLink RX3 95 "FrontDoor" "tick" "I", Cond.fieldLink RX3 19 "FrontDoor" "live" "Ljava/util/ArrayList;", Cond.fieldLink RX3 109 "FrontDoor$Call" "number" "I", Cond.methodLink RX3 39 yX3_refuse, Cond.instanceMethod yX3_refuse, Cond.selects RX3 yX3_refuse yX3_refuse, Cond.initialized RX3, Cond.code yX3_refuse cX3_refuse 3 (some .int), Cond.fieldLink RX3 25 "FrontDoor" "refusals" "[I", Cond.methodLink RX3 43 yJx4a65c_size_8abf5, Cond.instanceMethod yJx4a65c_size_8abf5, Cond.selects RJx4a65c yJx4a65c_size_8abf5 yJx4a65c_size_8abf5, Cond.initialized RJx4a65c, Cond.code yJx4a65c_size_8abf5 cJx4a65c_size_8abf5 1 (some .int), Cond.fieldLink RJx4a65c 48 "java/util/ArrayList" "size" "I", Cond.methodLink RX3 98 yX1_init, Cond.instanceMethod yX1_init, Cond.code yX1_init cX1_init 7 none, Cond.methodLink RX1 3 objectInit]
def wsX3_call_r2 : List Cond := [Cond.instanceMethod objectInit, Cond.code objectInit ⟨#[0xb1]⟩ 1 none, Cond.fieldLink RX1 9 "FrontDoor$Call" "number" "I", Cond.fieldLink RX1 15 "FrontDoor$Call" "key" "I", Cond.fieldLink RX1 18 "FrontDoor$Call" "grade" "I", Cond.fieldLink RX1 21 "FrontDoor$Call" "came" "I", Cond.fieldLink RX1 24 "FrontDoor$Call" "due" "I", Cond.fieldLink RX1 27 "FrontDoor$Call" "safe" "Z", Cond.fieldLink RX1 31 "FrontDoor$Call" "state" "I", Cond.fieldLink RX1 34 "FrontDoor$Call" "ended" "I", Cond.fieldLink RX1 37 "FrontDoor$Call" "answerer" "I", Cond.methodLink RX3 52 yJx4a65c_add_9ea2d, Cond.instanceMethod yJx4a65c_add_9ea2d, Cond.selects RJx4a65c yJx4a65c_add_9ea2d yJx4a65c_add_9ea2d, Cond.code yJx4a65c_add_9ea2d cJx4a65c_add_9ea2d 2 (some .boolean), Cond.fieldLink RJx4a65c 63 "java/util/ArrayList" "modCount" "I", Cond.sameField "java/util/ArrayList" "java/util/AbstractList" "modCount" "I", Cond.fieldLink RJx4a65c 9 "java/util/ArrayList" "elementData" "[Ljava/lang/Object;", Cond.methodLink RJx4a65c 131 yJx4a65c_add_72be8, Cond.instanceMethod yJx4a65c_add_72be8, Cond.selects RJx4a65c yJx4a65c_add_72be8 yJx4a65c_add_72be8, Cond.code yJx4a65c_add_72be8 cJx4a65c_add_72be8 4 none, Cond.methodLink RJx4a65c 129 yJx4a65c_grow_d5877, Cond.instanceMethod yJx4a65c_grow_d5877]
def wsX3_call_r3 : List Cond := [Cond.selects RJx4a65c yJx4a65c_grow_d5877 yJx4a65c_grow_d5877, Cond.code yJx4a65c_grow_d5877 cJx4a65c_grow_d5877 1 (some (.array (.object "java/lang/Object"))), Cond.methodLink RJx4a65c 69 yJx4a65c_grow_92f84, Cond.instanceMethod yJx4a65c_grow_92f84, Cond.selects RJx4a65c yJx4a65c_grow_92f84 yJx4a65c_grow_92f84, Cond.code yJx4a65c_grow_92f84 cJx4a65c_grow_92f84 4 (some (.array (.object "java/lang/Object"))), Cond.fieldLink RJx4a65c 39 "java/util/ArrayList" "DEFAULTCAPACITY_EMPTY_ELEMENTDATA" "[Ljava/lang/Object;", Cond.methodLink RJx4a65c 79 Lib.Math.max.name, Cond.static Lib.Math.max.name, Cond.initialized "java/lang/Math", Cond.code Lib.Math.max.name Lib.Math.max.code 2 (some .int), Cond.classLink RJx4a65c 7 "java/lang/Object", Cond.methodLink RJx4a65c 73 yJ8_newLength_cabcc, Cond.static yJ8_newLength_cabcc, Cond.initialized RJ8, Cond.code yJ8_newLength_cabcc cJ8_newLength_cabcc 4 (some .int), Cond.methodLink RJ8 194 Lib.Math.max.name, Cond.constant RJ8 200 (2147483639), Cond.methodLink RJ8 201 yJ8_hugeLength_7cf53, Cond.static yJ8_hugeLength_7cf53, Cond.code yJ8_hugeLength_7cf53 cJ8_hugeLength_7cf53 3 (some .int), Cond.methodLink RJx4a65c 66 yJ7_copyOf_1904c, Cond.static yJ7_copyOf_1904c, Cond.initialized RJ7]
def wsX3_call_r4 : List Cond := [Cond.code yJ7_copyOf_1904c cJ7_copyOf_1904c 2 (some (.array (.object "java/lang/Object"))), Cond.methodLink RJ7 86 ⟨"java/lang/Object", "getClass", "()Ljava/lang/Class;"⟩, Cond.selects "[Ljava/lang/Object;" ⟨"java/lang/Object", "getClass", "()Ljava/lang/Class;"⟩ ⟨"java/lang/Object", "getClass", "()Ljava/lang/Class;"⟩, Cond.instanceMethod ⟨"java/lang/Object", "getClass", "()Ljava/lang/Class;"⟩, Cond.native ⟨"java/lang/Object", "getClass", "()Ljava/lang/Class;"⟩, Cond.methodLink RJ7 300 yJ7_copyOf_6403c, Cond.static yJ7_copyOf_6403c, Cond.code yJ7_copyOf_6403c cJ7_copyOf_6403c 4 (some (.array (.object "java/lang/Object"))), Cond.classLink RJ7 110 "[Ljava/lang/Object;", Cond.classLink RJ7 2 "java/lang/Object", Cond.methodLink RJ7 304 Lib.Math.min.name, Cond.static Lib.Math.min.name, Cond.code Lib.Math.min.name Lib.Math.min.code 2 (some .int), Cond.methodLink RJ7 150 arraycopyName, Cond.native arraycopyName, Cond.static arraycopyName, Cond.initialized "java/lang/System", Cond.methodLink RX3 101 yX3_askByRule, Cond.instanceMethod yX3_askByRule, Cond.selects RX3 yX3_askByRule yX3_askByRule, Cond.code yX3_askByRule cX3_askByRule 3 (some .boolean), Cond.fieldLink RX3 199 "FrontDoor$Call" "key" "I", Cond.fieldLink RX3 202 "FrontDoor$Call" "tried" "I", Cond.fieldLink RX3 29 "FrontDoor" "ruleNow" "I"]
def wsX3_call_r5 : List Cond := [Cond.methodLink RX3 140 yX3_chosen, Cond.instanceMethod yX3_chosen, Cond.selects RX3 yX3_chosen yX3_chosen, Cond.code yX3_chosen cX3_chosen 4 (some (.object "FrontDoor$Server")), Cond.methodLink RX3 173 yX3_byTurn, Cond.instanceMethod yX3_byTurn, Cond.selects RX3 yX3_byTurn yX3_byTurn, Cond.code yX3_byTurn cX3_byTurn 5 (some (.object "FrontDoor$Server")), Cond.fieldLink RX3 10 "FrontDoor" "servers" "Ljava/util/ArrayList;", Cond.classLink RX3 47 "FrontDoor$Server", Cond.fieldLink RX3 186 "FrontDoor$Server" "credit" "I", Cond.fieldLink RX3 189 "FrontDoor$Server" "weight" "I", Cond.methodLink RX3 151 yJx4a65c_get_915e3, Cond.instanceMethod yJx4a65c_get_915e3, Cond.selects RJx4a65c yJx4a65c_get_915e3 yJx4a65c_get_915e3, Cond.code yJx4a65c_get_915e3 cJx4a65c_get_915e3 2 (some (.object "java/lang/Object")), Cond.methodLink RJx4a65c 118 yJ15_checkIndex_7cf53, Cond.static yJ15_checkIndex_7cf53, Cond.initialized RJ15, Cond.code yJ15_checkIndex_7cf53 cJ15_checkIndex_7cf53 2 (some .int), Cond.methodLink RJ15 105 yJ3_checkIndex_8e157, Cond.static yJ3_checkIndex_8e157, Cond.initialized RJ3, Cond.code yJ3_checkIndex_8e157 cJ3_checkIndex_8e157 3 (some .int)]
def wsX3_call_r6 : List Cond := [Cond.methodLink RJx4a65c 123 yJx4a65c_elementData_915e3, Cond.instanceMethod yJx4a65c_elementData_915e3, Cond.selects RJx4a65c yJx4a65c_elementData_915e3 yJx4a65c_elementData_915e3, Cond.code yJx4a65c_elementData_915e3 cJx4a65c_elementData_915e3 2 (some (.object "java/lang/Object")), Cond.methodLink RX3 182 yX2_mayBeAsked, Cond.instanceMethod yX2_mayBeAsked, Cond.selects RX2 yX2_mayBeAsked yX2_mayBeAsked, Cond.initialized RX2, Cond.code yX2_mayBeAsked cX2_mayBeAsked 2 (some .boolean), Cond.fieldLink RX2 9 "FrontDoor$Server" "number" "I", Cond.fieldLink RX2 36 "FrontDoor$Server" "open" "I", Cond.fieldLink RX2 21 "FrontDoor$Server" "room" "I", Cond.fieldLink RX2 30 "FrontDoor$Server" "health" "I", Cond.methodLink RX3 176 yX3_byRing, Cond.instanceMethod yX3_byRing, Cond.selects RX3 yX3_byRing yX3_byRing, Cond.code yX3_byRing cX3_byRing 7 (some (.object "FrontDoor$Server")), Cond.constant RX3 195 (65536), Cond.methodLink RX3 196 yX2_wayFrom, Cond.instanceMethod yX2_wayFrom, Cond.selects RX2 yX2_wayFrom yX2_wayFrom, Cond.code yX2_wayFrom cX2_wayFrom 4 (some .int), Cond.constant RX2 40 (65535), Cond.methodLink RX2 45 Lib.Math.min.name]
def wsX3_call_r7 : List Cond := [Cond.methodLink RX2 41 yX2_placeOfMark, Cond.instanceMethod yX2_placeOfMark, Cond.selects RX2 yX2_placeOfMark yX2_placeOfMark, Cond.code yX2_placeOfMark cX2_placeOfMark 2 (some .int), Cond.constant RX2 39 (40503), Cond.methodLink RX3 179 yX3_byFewest, Cond.instanceMethod yX3_byFewest, Cond.selects RX3 yX3_byFewest yX3_byFewest, Cond.code yX3_byFewest cX3_byFewest 7 (some (.object "FrontDoor$Server")), Cond.fieldLink RX3 192 "FrontDoor$Server" "zone" "I", Cond.fieldLink RX3 80 "FrontDoor$Server" "open" "I", Cond.methodLink RX3 205 yX3_settleCredits, Cond.instanceMethod yX3_settleCredits, Cond.selects RX3 yX3_settleCredits yX3_settleCredits, Cond.code yX3_settleCredits cX3_settleCredits 6 none, Cond.methodLink RX3 209 yX2_takeAsking, Cond.instanceMethod yX2_takeAsking, Cond.selects RX2 yX2_takeAsking yX2_takeAsking, Cond.code yX2_takeAsking cX2_takeAsking 4 (some (.object "FrontDoor$Asking")), Cond.fieldLink RX2 51 "FrontDoor$Server" "asked" "I", Cond.fieldLink RX2 54 "FrontDoor$Server" "mute" "I", Cond.fieldLink RX2 24 "FrontDoor$Server" "pace" "I", Cond.fieldLink RX2 27 "FrontDoor$Server" "breaks" "I", Cond.classLink RX2 57 RX0]
def wsX3_call_r8 : List Cond := [Cond.instantiable RX0 4, Cond.initialized RX0, Cond.methodLink RX2 59 yX0_init, Cond.instanceMethod yX0_init, Cond.code yX0_init cX0_init 5 none, Cond.methodLink RX0 1 objectInit, Cond.fieldLink RX0 7 "FrontDoor$Asking" "server" "LFrontDoor$Server;", Cond.fieldLink RX0 13 "FrontDoor$Asking" "since" "I", Cond.fieldLink RX0 17 "FrontDoor$Asking" "over" "I", Cond.fieldLink RX0 20 "FrontDoor$Asking" "fails" "Z", Cond.methodLink RX3 213 yX1_begin, Cond.instanceMethod yX1_begin, Cond.selects RX1 yX1_begin yX1_begin, Cond.code yX1_begin cX1_begin 2 none, Cond.fieldLink RX1 40 "FrontDoor$Call" "first" "LFrontDoor$Asking;", Cond.fieldLink RX1 44 "FrontDoor$Call" "second" "LFrontDoor$Asking;", Cond.fieldLink RX1 47 "FrontDoor$Call" "tried" "I", Cond.fieldLink RX1 50 "FrontDoor$Asking" "server" "LFrontDoor$Server;", Cond.fieldLink RX1 56 "FrontDoor$Server" "number" "I", Cond.methodLink RX3 105 yX3_joinLine, Cond.instanceMethod yX3_joinLine, Cond.selects RX3 yX3_joinLine yX3_joinLine, Cond.code yX3_joinLine cX3_joinLine 3 none, Cond.fieldLink RX3 118 "FrontDoor$Call" "state" "I"]
def wsX3_call_r9 : List Cond := [Cond.fieldLink RX3 22 "FrontDoor" "line" "Ljava/util/ArrayList;", Cond.classLink RX3 93 "FrontDoor$Call", Cond.methodLink RX3 217 yX1_goesAheadOf, Cond.instanceMethod yX1_goesAheadOf, Cond.selects RX1 yX1_goesAheadOf yX1_goesAheadOf, Cond.code yX1_goesAheadOf cX1_goesAheadOf 2 (some .boolean), Cond.methodLink RX3 220 yJx4a65c_add_7a177, Cond.instanceMethod yJx4a65c_add_7a177, Cond.selects RJx4a65c yJx4a65c_add_7a177 yJx4a65c_add_7a177, Cond.code yJx4a65c_add_7a177 cJx4a65c_add_7a177 5 none, Cond.methodLink RJx4a65c 112 arraycopyName, Cond.methodLink RJx4a65c 135 yJx4a65c_rangeCheckForAdd_d00df, Cond.instanceMethod yJx4a65c_rangeCheckForAdd_d00df, Cond.selects RJx4a65c yJx4a65c_rangeCheckForAdd_d00df yJx4a65c_rangeCheckForAdd_d00df, Cond.code yJx4a65c_rangeCheckForAdd_d00df cJx4a65c_rangeCheckForAdd_d00df 2 none]
def wsX3_call : List Cond := .code yX3_call cX3_call 6 (some .int) :: ((wsX3_call_r1 ++ (wsX3_call_r2 ++ (wsX3_call_r3 ++ (wsX3_call_r4 ++ (wsX3_call_r5 ++ (wsX3_call_r6 ++ (wsX3_call_r7 ++ (wsX3_call_r8 ++ wsX3_call_r9)))))))) ++ wsX30 ++ wsX10 ++ wsJx4a65c0 ++ wsX20 ++ wsX00)
def wsX3_callAt_r1 : List Cond := [Cond.fieldLink RX3 16 "FrontDoor" "calls" "Ljava/util/ArrayList;", Cond.classLink RX3 93 "FrontDoor$Call", Cond.methodLink RX3 43 yJx4a65c_size_8abf5, Cond.instanceMethod yJx4a65c_size_8abf5, Cond.selects RJx4a65c yJx4a65c_size_8abf5 yJx4a65c_size_8abf5, Cond.initialized RJx4a65c, Cond.code yJx4a65c_size_8abf5 cJx4a65c_size_8abf5 1 (some .int), Cond.fieldLink RJx4a65c 48 "java/util/ArrayList" "size" "I", Cond.methodLink RX3 151 yJx4a65c_get_915e3, Cond.instanceMethod yJx4a65c_get_915e3, Cond.selects RJx4a65c yJx4a65c_get_915e3 yJx4a65c_get_915e3, Cond.code yJx4a65c_get_915e3 cJx4a65c_get_915e3 2 (some (.object "java/lang/Object")), Cond.methodLink RJx4a65c 118 yJ15_checkIndex_7cf53, Cond.static yJ15_checkIndex_7cf53, Cond.initialized RJ15, Cond.code yJ15_checkIndex_7cf53 cJ15_checkIndex_7cf53 2 (some .int), Cond.methodLink RJ15 105 yJ3_checkIndex_8e157, Cond.static yJ3_checkIndex_8e157, Cond.initialized RJ3, Cond.code yJ3_checkIndex_8e157 cJ3_checkIndex_8e157 3 (some .int), Cond.methodLink RJx4a65c 123 yJx4a65c_elementData_915e3, Cond.instanceMethod yJx4a65c_elementData_915e3, Cond.selects RJx4a65c yJx4a65c_elementData_915e3 yJx4a65c_elementData_915e3, Cond.code yJx4a65c_elementData_915e3 cJx4a65c_elementData_915e3 2 (some (.object "java/lang/Object"))]
def wsX3_callAt_r2 : List Cond := [Cond.fieldLink RJx4a65c 9 "java/util/ArrayList" "elementData" "[Ljava/lang/Object;"]
def wsX3_callAt : List Cond := .code yX3_callAt cX3_callAt 2 (some (.object "FrontDoor$Call")) :: ((wsX3_callAt_r1 ++ wsX3_callAt_r2) ++ wsX30 ++ wsJx4a65c0)
def wsJx4a65c_fastRemove_b59b0 : List Cond := .code yJx4a65c_fastRemove_b59b0 cJx4a65c_fastRemove_b59b0 4 none :: ([.fieldLink RJx4a65c 63 "java/util/ArrayList" "modCount" "I", .sameField "java/util/ArrayList" "java/util/AbstractList" "modCount" "I", .fieldLink RJx4a65c 48 "java/util/ArrayList" "size" "I", .methodLink RJx4a65c 112 arraycopyName, .native arraycopyName, .static arraycopyName, .initialized "java/lang/System"] ++ wsJx4a65c0)
def wsJx4a65c_remove_915e3 : List Cond := .code yJx4a65c_remove_915e3 cJx4a65c_remove_915e3 4 (some (.object "java/lang/Object")) :: ([.fieldLink RJx4a65c 48 "java/util/ArrayList" "size" "I", .fieldLink RJx4a65c 9 "java/util/ArrayList" "elementData" "[Ljava/lang/Object;", .methodLink RJx4a65c 118 yJ15_checkIndex_7cf53, .static yJ15_checkIndex_7cf53, .initialized RJ15, .code yJ15_checkIndex_7cf53 cJ15_checkIndex_7cf53 2 (some .int), .methodLink RJ15 105 yJ3_checkIndex_8e157, .static yJ3_checkIndex_8e157, .initialized RJ3, .code yJ3_checkIndex_8e157 cJ3_checkIndex_8e157 3 (some .int), .methodLink RJx4a65c 144 yJx4a65c_fastRemove_b59b0, .instanceMethod yJx4a65c_fastRemove_b59b0, .selects RJx4a65c yJx4a65c_fastRemove_b59b0 yJx4a65c_fastRemove_b59b0, .initialized RJx4a65c, .code yJx4a65c_fastRemove_b59b0 cJx4a65c_fastRemove_b59b0 4 none, .fieldLink RJx4a65c 63 "java/util/ArrayList" "modCount" "I", .sameField "java/util/ArrayList" "java/util/AbstractList" "modCount" "I", .methodLink RJx4a65c 112 arraycopyName, .native arraycopyName, .static arraycopyName, .initialized "java/lang/System"] ++ wsJx4a65c0)
def wsX3_leaveLine_r1 : List Cond := [Cond.fieldLink RX3 22 "FrontDoor" "line" "Ljava/util/ArrayList;", Cond.classLink RX3 93 "FrontDoor$Call", Cond.fieldLink RX3 109 "FrontDoor$Call" "number" "I", Cond.methodLink RX3 43 yJx4a65c_size_8abf5, Cond.instanceMethod yJx4a65c_size_8abf5, Cond.selects RJx4a65c yJx4a65c_size_8abf5 yJx4a65c_size_8abf5, Cond.initialized RJx4a65c, Cond.code yJx4a65c_size_8abf5 cJx4a65c_size_8abf5 1 (some .int), Cond.fieldLink RJx4a65c 48 "java/util/ArrayList" "size" "I", Cond.methodLink RX3 151 yJx4a65c_get_915e3, Cond.instanceMethod yJx4a65c_get_915e3, Cond.selects RJx4a65c yJx4a65c_get_915e3 yJx4a65c_get_915e3, Cond.code yJx4a65c_get_915e3 cJx4a65c_get_915e3 2 (some (.object "java/lang/Object")), Cond.methodLink RJx4a65c 118 yJ15_checkIndex_7cf53, Cond.static yJ15_checkIndex_7cf53, Cond.initialized RJ15, Cond.code yJ15_checkIndex_7cf53 cJ15_checkIndex_7cf53 2 (some .int), Cond.methodLink RJ15 105 yJ3_checkIndex_8e157, Cond.static yJ3_checkIndex_8e157, Cond.initialized RJ3, Cond.code yJ3_checkIndex_8e157 cJ3_checkIndex_8e157 3 (some .int), Cond.methodLink RJx4a65c 123 yJx4a65c_elementData_915e3, Cond.instanceMethod yJx4a65c_elementData_915e3, Cond.selects RJx4a65c yJx4a65c_elementData_915e3 yJx4a65c_elementData_915e3]
def wsX3_leaveLine_r2 : List Cond := [Cond.code yJx4a65c_elementData_915e3 cJx4a65c_elementData_915e3 2 (some (.object "java/lang/Object")), Cond.fieldLink RJx4a65c 9 "java/util/ArrayList" "elementData" "[Ljava/lang/Object;", Cond.methodLink RX3 223 yJx4a65c_remove_915e3, Cond.instanceMethod yJx4a65c_remove_915e3, Cond.selects RJx4a65c yJx4a65c_remove_915e3 yJx4a65c_remove_915e3, Cond.code yJx4a65c_remove_915e3 cJx4a65c_remove_915e3 4 (some (.object "java/lang/Object")), Cond.methodLink RJx4a65c 144 yJx4a65c_fastRemove_b59b0, Cond.instanceMethod yJx4a65c_fastRemove_b59b0, Cond.selects RJx4a65c yJx4a65c_fastRemove_b59b0 yJx4a65c_fastRemove_b59b0, Cond.code yJx4a65c_fastRemove_b59b0 cJx4a65c_fastRemove_b59b0 4 none, Cond.fieldLink RJx4a65c 63 "java/util/ArrayList" "modCount" "I", Cond.sameField "java/util/ArrayList" "java/util/AbstractList" "modCount" "I", Cond.methodLink RJx4a65c 112 arraycopyName, Cond.native arraycopyName, Cond.static arraycopyName, Cond.initialized "java/lang/System"]
def wsX3_leaveLine : List Cond := .code yX3_leaveLine cX3_leaveLine 3 none :: ((wsX3_leaveLine_r1 ++ wsX3_leaveLine_r2) ++ wsX30 ++ wsX10 ++ wsJx4a65c0)
def wsX3_end : List Cond := .code yX3_end cX3_end 3 none :: ([.fieldLink RX3 118 "FrontDoor$Call" "state" "I", .fieldLink RX3 95 "FrontDoor" "tick" "I", .fieldLink RX3 226 "FrontDoor$Call" "ended" "I", .fieldLink RX3 134 "FrontDoor" "endedSoFar" "I"] ++ wsX10 ++ wsX30)
def wsX3_dropEnded_r1 : List Cond := [Cond.fieldLink RX3 19 "FrontDoor" "live" "Ljava/util/ArrayList;", Cond.classLink RX3 93 "FrontDoor$Call", Cond.methodLink RX3 43 yJx4a65c_size_8abf5, Cond.instanceMethod yJx4a65c_size_8abf5, Cond.selects RJx4a65c yJx4a65c_size_8abf5 yJx4a65c_size_8abf5, Cond.initialized RJx4a65c, Cond.code yJx4a65c_size_8abf5 cJx4a65c_size_8abf5 1 (some .int), Cond.fieldLink RJx4a65c 48 "java/util/ArrayList" "size" "I", Cond.methodLink RX3 151 yJx4a65c_get_915e3, Cond.instanceMethod yJx4a65c_get_915e3, Cond.selects RJx4a65c yJx4a65c_get_915e3 yJx4a65c_get_915e3, Cond.code yJx4a65c_get_915e3 cJx4a65c_get_915e3 2 (some (.object "java/lang/Object")), Cond.methodLink RJx4a65c 118 yJ15_checkIndex_7cf53, Cond.static yJ15_checkIndex_7cf53, Cond.initialized RJ15, Cond.code yJ15_checkIndex_7cf53 cJ15_checkIndex_7cf53 2 (some .int), Cond.methodLink RJ15 105 yJ3_checkIndex_8e157, Cond.static yJ3_checkIndex_8e157, Cond.initialized RJ3, Cond.code yJ3_checkIndex_8e157 cJ3_checkIndex_8e157 3 (some .int), Cond.methodLink RJx4a65c 123 yJx4a65c_elementData_915e3, Cond.instanceMethod yJx4a65c_elementData_915e3, Cond.selects RJx4a65c yJx4a65c_elementData_915e3 yJx4a65c_elementData_915e3, Cond.code yJx4a65c_elementData_915e3 cJx4a65c_elementData_915e3 2 (some (.object "java/lang/Object"))]
def wsX3_dropEnded_r2 : List Cond := [Cond.fieldLink RJx4a65c 9 "java/util/ArrayList" "elementData" "[Ljava/lang/Object;", Cond.methodLink RX3 114 yX1_hasEnded, Cond.instanceMethod yX1_hasEnded, Cond.selects RX1 yX1_hasEnded yX1_hasEnded, Cond.initialized RX1, Cond.code yX1_hasEnded cX1_hasEnded 1 (some .boolean), Cond.fieldLink RX1 31 "FrontDoor$Call" "state" "I", Cond.methodLink RX3 223 yJx4a65c_remove_915e3, Cond.instanceMethod yJx4a65c_remove_915e3, Cond.selects RJx4a65c yJx4a65c_remove_915e3 yJx4a65c_remove_915e3, Cond.code yJx4a65c_remove_915e3 cJx4a65c_remove_915e3 4 (some (.object "java/lang/Object")), Cond.methodLink RJx4a65c 144 yJx4a65c_fastRemove_b59b0, Cond.instanceMethod yJx4a65c_fastRemove_b59b0, Cond.selects RJx4a65c yJx4a65c_fastRemove_b59b0 yJx4a65c_fastRemove_b59b0, Cond.code yJx4a65c_fastRemove_b59b0 cJx4a65c_fastRemove_b59b0 4 none, Cond.fieldLink RJx4a65c 63 "java/util/ArrayList" "modCount" "I", Cond.sameField "java/util/ArrayList" "java/util/AbstractList" "modCount" "I", Cond.methodLink RJx4a65c 112 arraycopyName, Cond.native arraycopyName, Cond.static arraycopyName, Cond.initialized "java/lang/System"]
def wsX3_dropEnded : List Cond := .code yX3_dropEnded cX3_dropEnded 2 none :: ((wsX3_dropEnded_r1 ++ wsX3_dropEnded_r2) ++ wsX30 ++ wsJx4a65c0 ++ wsX10)
def wsX3_off_r1 : List Cond := [Cond.fieldLink RX3 118 "FrontDoor$Call" "state" "I", Cond.methodLink RX3 110 yX3_callAt, Cond.instanceMethod yX3_callAt, Cond.selects RX3 yX3_callAt yX3_callAt, Cond.initialized RX3, Cond.code yX3_callAt cX3_callAt 2 (some (.object "FrontDoor$Call")), Cond.fieldLink RX3 16 "FrontDoor" "calls" "Ljava/util/ArrayList;", Cond.classLink RX3 93 "FrontDoor$Call", Cond.methodLink RX3 43 yJx4a65c_size_8abf5, Cond.instanceMethod yJx4a65c_size_8abf5, Cond.selects RJx4a65c yJx4a65c_size_8abf5 yJx4a65c_size_8abf5, Cond.initialized RJx4a65c, Cond.code yJx4a65c_size_8abf5 cJx4a65c_size_8abf5 1 (some .int), Cond.fieldLink RJx4a65c 48 "java/util/ArrayList" "size" "I", Cond.methodLink RX3 151 yJx4a65c_get_915e3, Cond.instanceMethod yJx4a65c_get_915e3, Cond.selects RJx4a65c yJx4a65c_get_915e3 yJx4a65c_get_915e3, Cond.code yJx4a65c_get_915e3 cJx4a65c_get_915e3 2 (some (.object "java/lang/Object")), Cond.methodLink RJx4a65c 118 yJ15_checkIndex_7cf53, Cond.static yJ15_checkIndex_7cf53, Cond.initialized RJ15, Cond.code yJ15_checkIndex_7cf53 cJ15_checkIndex_7cf53 2 (some .int), Cond.methodLink RJ15 105 yJ3_checkIndex_8e157, Cond.static yJ3_checkIndex_8e157]
def wsX3_off_r2 : List Cond := [Cond.initialized RJ3, Cond.code yJ3_checkIndex_8e157 cJ3_checkIndex_8e157 3 (some .int), Cond.methodLink RJx4a65c 123 yJx4a65c_elementData_915e3, Cond.instanceMethod yJx4a65c_elementData_915e3, Cond.selects RJx4a65c yJx4a65c_elementData_915e3 yJx4a65c_elementData_915e3, Cond.code yJx4a65c_elementData_915e3 cJx4a65c_elementData_915e3 2 (some (.object "java/lang/Object")), Cond.fieldLink RJx4a65c 9 "java/util/ArrayList" "elementData" "[Ljava/lang/Object;", Cond.methodLink RX3 39 yX3_refuse, Cond.instanceMethod yX3_refuse, Cond.selects RX3 yX3_refuse yX3_refuse, Cond.code yX3_refuse cX3_refuse 3 (some .int), Cond.fieldLink RX3 25 "FrontDoor" "refusals" "[I", Cond.methodLink RX3 114 yX1_hasEnded, Cond.instanceMethod yX1_hasEnded, Cond.selects RX1 yX1_hasEnded yX1_hasEnded, Cond.initialized RX1, Cond.code yX1_hasEnded cX1_hasEnded 1 (some .boolean), Cond.fieldLink RX1 31 "FrontDoor$Call" "state" "I", Cond.methodLink RX3 121 yX3_leaveLine, Cond.instanceMethod yX3_leaveLine, Cond.selects RX3 yX3_leaveLine yX3_leaveLine, Cond.code yX3_leaveLine cX3_leaveLine 3 none, Cond.fieldLink RX3 22 "FrontDoor" "line" "Ljava/util/ArrayList;", Cond.fieldLink RX3 109 "FrontDoor$Call" "number" "I"]
def wsX3_off_r3 : List Cond := [Cond.methodLink RX3 223 yJx4a65c_remove_915e3, Cond.instanceMethod yJx4a65c_remove_915e3, Cond.selects RJx4a65c yJx4a65c_remove_915e3 yJx4a65c_remove_915e3, Cond.code yJx4a65c_remove_915e3 cJx4a65c_remove_915e3 4 (some (.object "java/lang/Object")), Cond.methodLink RJx4a65c 144 yJx4a65c_fastRemove_b59b0, Cond.instanceMethod yJx4a65c_fastRemove_b59b0, Cond.selects RJx4a65c yJx4a65c_fastRemove_b59b0 yJx4a65c_fastRemove_b59b0, Cond.code yJx4a65c_fastRemove_b59b0 cJx4a65c_fastRemove_b59b0 4 none, Cond.fieldLink RJx4a65c 63 "java/util/ArrayList" "modCount" "I", Cond.sameField "java/util/ArrayList" "java/util/AbstractList" "modCount" "I", Cond.methodLink RJx4a65c 112 arraycopyName, Cond.native arraycopyName, Cond.static arraycopyName, Cond.initialized "java/lang/System", Cond.methodLink RX3 124 yX1_callOffAll, Cond.instanceMethod yX1_callOffAll, Cond.selects RX1 yX1_callOffAll yX1_callOffAll, Cond.code yX1_callOffAll cX1_callOffAll 1 none, Cond.fieldLink RX1 44 "FrontDoor$Call" "second" "LFrontDoor$Asking;", Cond.fieldLink RX1 40 "FrontDoor$Call" "first" "LFrontDoor$Asking;", Cond.methodLink RX1 62 yX1_letGo, Cond.instanceMethod yX1_letGo, Cond.selects RX1 yX1_letGo yX1_letGo, Cond.code yX1_letGo cX1_letGo 2 none]
def wsX3_off_r4 : List Cond := [Cond.fieldLink RX1 50 "FrontDoor$Asking" "server" "LFrontDoor$Server;", Cond.fieldLink RX1 59 "FrontDoor$Server" "open" "I", Cond.methodLink RX3 127 yX3_end, Cond.instanceMethod yX3_end, Cond.selects RX3 yX3_end yX3_end, Cond.code yX3_end cX3_end 3 none, Cond.fieldLink RX3 95 "FrontDoor" "tick" "I", Cond.fieldLink RX3 226 "FrontDoor$Call" "ended" "I", Cond.fieldLink RX3 134 "FrontDoor" "endedSoFar" "I", Cond.methodLink RX3 131 yX3_dropEnded, Cond.instanceMethod yX3_dropEnded, Cond.selects RX3 yX3_dropEnded yX3_dropEnded, Cond.code yX3_dropEnded cX3_dropEnded 2 none, Cond.fieldLink RX3 19 "FrontDoor" "live" "Ljava/util/ArrayList;"]
def wsX3_off : List Cond := .code yX3_off cX3_off 3 (some .int) :: ((wsX3_off_r1 ++ (wsX3_off_r2 ++ (wsX3_off_r3 ++ wsX3_off_r4))) ++ wsX10 ++ wsX30 ++ wsJx4a65c0 ++ wsX00 ++ wsX20)
def wsX3_oneMoreOutIsTooMany_r1 : List Cond := [Cond.fieldLink RX3 10 "FrontDoor" "servers" "Ljava/util/ArrayList;", Cond.classLink RX3 47 "FrontDoor$Server", Cond.fieldLink RX3 63 "FrontDoor$Server" "health" "I", Cond.methodLink RX3 43 yJx4a65c_size_8abf5, Cond.instanceMethod yJx4a65c_size_8abf5, Cond.selects RJx4a65c yJx4a65c_size_8abf5 yJx4a65c_size_8abf5, Cond.initialized RJx4a65c, Cond.code yJx4a65c_size_8abf5 cJx4a65c_size_8abf5 1 (some .int), Cond.fieldLink RJx4a65c 48 "java/util/ArrayList" "size" "I", Cond.methodLink RX3 151 yJx4a65c_get_915e3, Cond.instanceMethod yJx4a65c_get_915e3, Cond.selects RJx4a65c yJx4a65c_get_915e3 yJx4a65c_get_915e3, Cond.code yJx4a65c_get_915e3 cJx4a65c_get_915e3 2 (some (.object "java/lang/Object")), Cond.methodLink RJx4a65c 118 yJ15_checkIndex_7cf53, Cond.static yJ15_checkIndex_7cf53, Cond.initialized RJ15, Cond.code yJ15_checkIndex_7cf53 cJ15_checkIndex_7cf53 2 (some .int), Cond.methodLink RJ15 105 yJ3_checkIndex_8e157, Cond.static yJ3_checkIndex_8e157, Cond.initialized RJ3, Cond.code yJ3_checkIndex_8e157 cJ3_checkIndex_8e157 3 (some .int), Cond.methodLink RJx4a65c 123 yJx4a65c_elementData_915e3, Cond.instanceMethod yJx4a65c_elementData_915e3, Cond.selects RJx4a65c yJx4a65c_elementData_915e3 yJx4a65c_elementData_915e3]
def wsX3_oneMoreOutIsTooMany_r2 : List Cond := [Cond.code yJx4a65c_elementData_915e3 cJx4a65c_elementData_915e3 2 (some (.object "java/lang/Object")), Cond.fieldLink RJx4a65c 9 "java/util/ArrayList" "elementData" "[Ljava/lang/Object;"]
def wsX3_oneMoreOutIsTooMany : List Cond := .code yX3_oneMoreOutIsTooMany cX3_oneMoreOutIsTooMany 5 (some .boolean) :: ((wsX3_oneMoreOutIsTooMany_r1 ++ wsX3_oneMoreOutIsTooMany_r2) ++ wsX30 ++ wsX20 ++ wsJx4a65c0)
def wsX3_failureOf_r1 : List Cond := [Cond.fieldLink RX3 293 "FrontDoor$Server" "failures" "I", Cond.fieldLink RX3 83 "FrontDoor$Server" "row" "I", Cond.fieldLink RX3 63 "FrontDoor$Server" "health" "I", Cond.fieldLink RX3 33 "FrontDoor" "limitNow" "I", Cond.fieldLink RX3 95 "FrontDoor" "tick" "I", Cond.methodLink RX3 296 yX3_oneMoreOutIsTooMany, Cond.instanceMethod yX3_oneMoreOutIsTooMany, Cond.selects RX3 yX3_oneMoreOutIsTooMany yX3_oneMoreOutIsTooMany, Cond.initialized RX3, Cond.code yX3_oneMoreOutIsTooMany cX3_oneMoreOutIsTooMany 5 (some .boolean), Cond.fieldLink RX3 10 "FrontDoor" "servers" "Ljava/util/ArrayList;", Cond.classLink RX3 47 "FrontDoor$Server", Cond.methodLink RX3 43 yJx4a65c_size_8abf5, Cond.instanceMethod yJx4a65c_size_8abf5, Cond.selects RJx4a65c yJx4a65c_size_8abf5 yJx4a65c_size_8abf5, Cond.initialized RJx4a65c, Cond.code yJx4a65c_size_8abf5 cJx4a65c_size_8abf5 1 (some .int), Cond.fieldLink RJx4a65c 48 "java/util/ArrayList" "size" "I", Cond.methodLink RX3 151 yJx4a65c_get_915e3, Cond.instanceMethod yJx4a65c_get_915e3, Cond.selects RJx4a65c yJx4a65c_get_915e3 yJx4a65c_get_915e3, Cond.code yJx4a65c_get_915e3 cJx4a65c_get_915e3 2 (some (.object "java/lang/Object")), Cond.methodLink RJx4a65c 118 yJ15_checkIndex_7cf53, Cond.static yJ15_checkIndex_7cf53]
def wsX3_failureOf_r2 : List Cond := [Cond.initialized RJ15, Cond.code yJ15_checkIndex_7cf53 cJ15_checkIndex_7cf53 2 (some .int), Cond.methodLink RJ15 105 yJ3_checkIndex_8e157, Cond.static yJ3_checkIndex_8e157, Cond.initialized RJ3, Cond.code yJ3_checkIndex_8e157 cJ3_checkIndex_8e157 3 (some .int), Cond.methodLink RJx4a65c 123 yJx4a65c_elementData_915e3, Cond.instanceMethod yJx4a65c_elementData_915e3, Cond.selects RJx4a65c yJx4a65c_elementData_915e3 yJx4a65c_elementData_915e3, Cond.code yJx4a65c_elementData_915e3 cJx4a65c_elementData_915e3 2 (some (.object "java/lang/Object")), Cond.fieldLink RJx4a65c 9 "java/util/ArrayList" "elementData" "[Ljava/lang/Object;", Cond.methodLink RX3 299 yX2_goOut, Cond.instanceMethod yX2_goOut, Cond.selects RX2 yX2_goOut yX2_goOut, Cond.initialized RX2, Cond.code yX2_goOut cX2_goOut 2 none, Cond.fieldLink RX2 30 "FrontDoor$Server" "health" "I", Cond.fieldLink RX2 33 "FrontDoor$Server" "penalty" "I", Cond.fieldLink RX2 68 "FrontDoor$Server" "until" "I", Cond.methodLink RX2 45 Lib.Math.min.name, Cond.static Lib.Math.min.name, Cond.initialized "java/lang/Math", Cond.code Lib.Math.min.name Lib.Math.min.code 2 (some .int), Cond.fieldLink RX2 71 "FrontDoor$Server" "outs" "I"]
def wsX3_failureOf_r3 : List Cond := [Cond.fieldLink RX2 65 "FrontDoor$Server" "row" "I"]
def wsX3_failureOf : List Cond := .code yX3_failureOf cX3_failureOf 2 none :: ((wsX3_failureOf_r1 ++ (wsX3_failureOf_r2 ++ wsX3_failureOf_r3)) ++ wsX20 ++ wsX30 ++ wsJx4a65c0)
def wsX3_budgetHolds : List Cond := .code yX3_budgetHolds cX3_budgetHolds 1 (some .boolean) :: ([.fieldLink RX3 164 "FrontDoor" "agains" "I", .fieldLink RX3 36 "FrontDoor" "budgetNow" "I", .fieldLink RX3 16 "FrontDoor" "calls" "Ljava/util/ArrayList;", .methodLink RX3 43 yJx4a65c_size_8abf5, .instanceMethod yJx4a65c_size_8abf5, .selects RJx4a65c yJx4a65c_size_8abf5 yJx4a65c_size_8abf5, .initialized RJx4a65c, .code yJx4a65c_size_8abf5 cJx4a65c_size_8abf5 1 (some .int), .fieldLink RJx4a65c 48 "java/util/ArrayList" "size" "I"] ++ wsX30 ++ wsJx4a65c0)
def wsX3_takeAnswer_r1 : List Cond := [Cond.fieldLink RX3 263 "FrontDoor$Asking" "fails" "Z", Cond.fieldLink RX3 267 "FrontDoor$Asking" "server" "LFrontDoor$Server;", Cond.fieldLink RX3 56 "FrontDoor$Server" "number" "I", Cond.fieldLink RX3 274 "FrontDoor$Call" "answerer" "I", Cond.fieldLink RX3 247 "FrontDoor$Call" "first" "LFrontDoor$Asking;", Cond.fieldLink RX3 284 "FrontDoor$Call" "safe" "Z", Cond.fieldLink RX3 95 "FrontDoor" "tick" "I", Cond.fieldLink RX3 287 "FrontDoor$Call" "due" "I", Cond.fieldLink RX3 164 "FrontDoor" "agains" "I", Cond.methodLink RX3 271 yX2_answer, Cond.instanceMethod yX2_answer, Cond.selects RX2 yX2_answer yX2_answer, Cond.initialized RX2, Cond.code yX2_answer cX2_answer 1 none, Cond.fieldLink RX2 62 "FrontDoor$Server" "answers" "I", Cond.fieldLink RX2 65 "FrontDoor$Server" "row" "I", Cond.fieldLink RX2 33 "FrontDoor$Server" "penalty" "I", Cond.fieldLink RX2 30 "FrontDoor$Server" "health" "I", Cond.methodLink RX3 124 yX1_callOffAll, Cond.instanceMethod yX1_callOffAll, Cond.selects RX1 yX1_callOffAll yX1_callOffAll, Cond.initialized RX1, Cond.code yX1_callOffAll cX1_callOffAll 1 none, Cond.fieldLink RX1 44 "FrontDoor$Call" "second" "LFrontDoor$Asking;"]
def wsX3_takeAnswer_r2 : List Cond := [Cond.fieldLink RX1 40 "FrontDoor$Call" "first" "LFrontDoor$Asking;", Cond.methodLink RX1 62 yX1_letGo, Cond.instanceMethod yX1_letGo, Cond.selects RX1 yX1_letGo yX1_letGo, Cond.code yX1_letGo cX1_letGo 2 none, Cond.fieldLink RX1 50 "FrontDoor$Asking" "server" "LFrontDoor$Server;", Cond.fieldLink RX1 59 "FrontDoor$Server" "open" "I", Cond.methodLink RX3 127 yX3_end, Cond.instanceMethod yX3_end, Cond.selects RX3 yX3_end yX3_end, Cond.initialized RX3, Cond.code yX3_end cX3_end 3 none, Cond.fieldLink RX3 118 "FrontDoor$Call" "state" "I", Cond.fieldLink RX3 226 "FrontDoor$Call" "ended" "I", Cond.fieldLink RX3 134 "FrontDoor" "endedSoFar" "I", Cond.methodLink RX3 277 yX1_letGo, Cond.methodLink RX3 280 yX3_failureOf, Cond.instanceMethod yX3_failureOf, Cond.selects RX3 yX3_failureOf yX3_failureOf, Cond.code yX3_failureOf cX3_failureOf 2 none, Cond.fieldLink RX3 293 "FrontDoor$Server" "failures" "I", Cond.fieldLink RX3 83 "FrontDoor$Server" "row" "I", Cond.fieldLink RX3 63 "FrontDoor$Server" "health" "I", Cond.fieldLink RX3 33 "FrontDoor" "limitNow" "I"]
def wsX3_takeAnswer_r3 : List Cond := [Cond.methodLink RX3 296 yX3_oneMoreOutIsTooMany, Cond.instanceMethod yX3_oneMoreOutIsTooMany, Cond.selects RX3 yX3_oneMoreOutIsTooMany yX3_oneMoreOutIsTooMany, Cond.code yX3_oneMoreOutIsTooMany cX3_oneMoreOutIsTooMany 5 (some .boolean), Cond.fieldLink RX3 10 "FrontDoor" "servers" "Ljava/util/ArrayList;", Cond.classLink RX3 47 "FrontDoor$Server", Cond.methodLink RX3 43 yJx4a65c_size_8abf5, Cond.instanceMethod yJx4a65c_size_8abf5, Cond.selects RJx4a65c yJx4a65c_size_8abf5 yJx4a65c_size_8abf5, Cond.initialized RJx4a65c, Cond.code yJx4a65c_size_8abf5 cJx4a65c_size_8abf5 1 (some .int), Cond.fieldLink RJx4a65c 48 "java/util/ArrayList" "size" "I", Cond.methodLink RX3 151 yJx4a65c_get_915e3, Cond.instanceMethod yJx4a65c_get_915e3, Cond.selects RJx4a65c yJx4a65c_get_915e3 yJx4a65c_get_915e3, Cond.code yJx4a65c_get_915e3 cJx4a65c_get_915e3 2 (some (.object "java/lang/Object")), Cond.methodLink RJx4a65c 118 yJ15_checkIndex_7cf53, Cond.static yJ15_checkIndex_7cf53, Cond.initialized RJ15, Cond.code yJ15_checkIndex_7cf53 cJ15_checkIndex_7cf53 2 (some .int), Cond.methodLink RJ15 105 yJ3_checkIndex_8e157, Cond.static yJ3_checkIndex_8e157, Cond.initialized RJ3, Cond.code yJ3_checkIndex_8e157 cJ3_checkIndex_8e157 3 (some .int)]
def wsX3_takeAnswer_r4 : List Cond := [Cond.methodLink RJx4a65c 123 yJx4a65c_elementData_915e3, Cond.instanceMethod yJx4a65c_elementData_915e3, Cond.selects RJx4a65c yJx4a65c_elementData_915e3 yJx4a65c_elementData_915e3, Cond.code yJx4a65c_elementData_915e3 cJx4a65c_elementData_915e3 2 (some (.object "java/lang/Object")), Cond.fieldLink RJx4a65c 9 "java/util/ArrayList" "elementData" "[Ljava/lang/Object;", Cond.methodLink RX3 299 yX2_goOut, Cond.instanceMethod yX2_goOut, Cond.selects RX2 yX2_goOut yX2_goOut, Cond.code yX2_goOut cX2_goOut 2 none, Cond.fieldLink RX2 68 "FrontDoor$Server" "until" "I", Cond.methodLink RX2 45 Lib.Math.min.name, Cond.static Lib.Math.min.name, Cond.initialized "java/lang/Math", Cond.code Lib.Math.min.name Lib.Math.min.code 2 (some .int), Cond.fieldLink RX2 71 "FrontDoor$Server" "outs" "I", Cond.methodLink RX3 290 yX3_budgetHolds, Cond.instanceMethod yX3_budgetHolds, Cond.selects RX3 yX3_budgetHolds yX3_budgetHolds, Cond.code yX3_budgetHolds cX3_budgetHolds 1 (some .boolean), Cond.fieldLink RX3 36 "FrontDoor" "budgetNow" "I", Cond.fieldLink RX3 16 "FrontDoor" "calls" "Ljava/util/ArrayList;", Cond.methodLink RX3 105 yX3_joinLine, Cond.instanceMethod yX3_joinLine, Cond.selects RX3 yX3_joinLine yX3_joinLine]
def wsX3_takeAnswer_r5 : List Cond := [Cond.code yX3_joinLine cX3_joinLine 3 none, Cond.fieldLink RX3 22 "FrontDoor" "line" "Ljava/util/ArrayList;", Cond.classLink RX3 93 "FrontDoor$Call", Cond.methodLink RX3 217 yX1_goesAheadOf, Cond.instanceMethod yX1_goesAheadOf, Cond.selects RX1 yX1_goesAheadOf yX1_goesAheadOf, Cond.code yX1_goesAheadOf cX1_goesAheadOf 2 (some .boolean), Cond.fieldLink RX1 18 "FrontDoor$Call" "grade" "I", Cond.fieldLink RX1 24 "FrontDoor$Call" "due" "I", Cond.fieldLink RX1 9 "FrontDoor$Call" "number" "I", Cond.methodLink RX3 220 yJx4a65c_add_7a177, Cond.instanceMethod yJx4a65c_add_7a177, Cond.selects RJx4a65c yJx4a65c_add_7a177 yJx4a65c_add_7a177, Cond.code yJx4a65c_add_7a177 cJx4a65c_add_7a177 5 none, Cond.fieldLink RJx4a65c 63 "java/util/ArrayList" "modCount" "I", Cond.sameField "java/util/ArrayList" "java/util/AbstractList" "modCount" "I", Cond.methodLink RJx4a65c 112 arraycopyName, Cond.native arraycopyName, Cond.static arraycopyName, Cond.initialized "java/lang/System", Cond.methodLink RJx4a65c 135 yJx4a65c_rangeCheckForAdd_d00df, Cond.instanceMethod yJx4a65c_rangeCheckForAdd_d00df, Cond.selects RJx4a65c yJx4a65c_rangeCheckForAdd_d00df yJx4a65c_rangeCheckForAdd_d00df, Cond.code yJx4a65c_rangeCheckForAdd_d00df cJx4a65c_rangeCheckForAdd_d00df 2 none]
def wsX3_takeAnswer_r6 : List Cond := [Cond.methodLink RJx4a65c 129 yJx4a65c_grow_d5877, Cond.instanceMethod yJx4a65c_grow_d5877, Cond.selects RJx4a65c yJx4a65c_grow_d5877 yJx4a65c_grow_d5877, Cond.code yJx4a65c_grow_d5877 cJx4a65c_grow_d5877 1 (some (.array (.object "java/lang/Object"))), Cond.methodLink RJx4a65c 69 yJx4a65c_grow_92f84, Cond.instanceMethod yJx4a65c_grow_92f84, Cond.selects RJx4a65c yJx4a65c_grow_92f84 yJx4a65c_grow_92f84, Cond.code yJx4a65c_grow_92f84 cJx4a65c_grow_92f84 4 (some (.array (.object "java/lang/Object"))), Cond.fieldLink RJx4a65c 39 "java/util/ArrayList" "DEFAULTCAPACITY_EMPTY_ELEMENTDATA" "[Ljava/lang/Object;", Cond.methodLink RJx4a65c 79 Lib.Math.max.name, Cond.static Lib.Math.max.name, Cond.code Lib.Math.max.name Lib.Math.max.code 2 (some .int), Cond.classLink RJx4a65c 7 "java/lang/Object", Cond.methodLink RJx4a65c 73 yJ8_newLength_cabcc, Cond.static yJ8_newLength_cabcc, Cond.initialized RJ8, Cond.code yJ8_newLength_cabcc cJ8_newLength_cabcc 4 (some .int), Cond.methodLink RJ8 194 Lib.Math.max.name, Cond.constant RJ8 200 (2147483639), Cond.methodLink RJ8 201 yJ8_hugeLength_7cf53, Cond.static yJ8_hugeLength_7cf53, Cond.code yJ8_hugeLength_7cf53 cJ8_hugeLength_7cf53 3 (some .int), Cond.methodLink RJx4a65c 66 yJ7_copyOf_1904c, Cond.static yJ7_copyOf_1904c]
def wsX3_takeAnswer_r7 : List Cond := [Cond.initialized RJ7, Cond.code yJ7_copyOf_1904c cJ7_copyOf_1904c 2 (some (.array (.object "java/lang/Object"))), Cond.methodLink RJ7 86 ⟨"java/lang/Object", "getClass", "()Ljava/lang/Class;"⟩, Cond.selects "[Ljava/lang/Object;" ⟨"java/lang/Object", "getClass", "()Ljava/lang/Class;"⟩ ⟨"java/lang/Object", "getClass", "()Ljava/lang/Class;"⟩, Cond.instanceMethod ⟨"java/lang/Object", "getClass", "()Ljava/lang/Class;"⟩, Cond.native ⟨"java/lang/Object", "getClass", "()Ljava/lang/Class;"⟩, Cond.methodLink RJ7 300 yJ7_copyOf_6403c, Cond.static yJ7_copyOf_6403c, Cond.code yJ7_copyOf_6403c cJ7_copyOf_6403c 4 (some (.array (.object "java/lang/Object"))), Cond.classLink RJ7 110 "[Ljava/lang/Object;", Cond.classLink RJ7 2 "java/lang/Object", Cond.methodLink RJ7 304 Lib.Math.min.name, Cond.methodLink RJ7 150 arraycopyName]
def wsX3_takeAnswer : List Cond := .code yX3_takeAnswer cX3_takeAnswer 3 none :: ((wsX3_takeAnswer_r1 ++ (wsX3_takeAnswer_r2 ++ (wsX3_takeAnswer_r3 ++ (wsX3_takeAnswer_r4 ++ (wsX3_takeAnswer_r5 ++ (wsX3_takeAnswer_r6 ++ wsX3_takeAnswer_r7)))))) ++ wsX00 ++ wsX20 ++ wsX10 ++ wsX30 ++ wsJx4a65c0)
def wsX3_takeWhatIsOver_r1 : List Cond := [Cond.fieldLink RX3 19 "FrontDoor" "live" "Ljava/util/ArrayList;", Cond.classLink RX3 93 "FrontDoor$Call", Cond.fieldLink RX3 247 "FrontDoor$Call" "first" "LFrontDoor$Asking;", Cond.fieldLink RX3 251 "FrontDoor$Call" "second" "LFrontDoor$Asking;", Cond.fieldLink RX3 254 "FrontDoor$Asking" "over" "I", Cond.fieldLink RX3 95 "FrontDoor" "tick" "I", Cond.fieldLink RX3 118 "FrontDoor$Call" "state" "I", Cond.methodLink RX3 43 yJx4a65c_size_8abf5, Cond.instanceMethod yJx4a65c_size_8abf5, Cond.selects RJx4a65c yJx4a65c_size_8abf5 yJx4a65c_size_8abf5, Cond.initialized RJx4a65c, Cond.code yJx4a65c_size_8abf5 cJx4a65c_size_8abf5 1 (some .int), Cond.fieldLink RJx4a65c 48 "java/util/ArrayList" "size" "I", Cond.methodLink RX3 151 yJx4a65c_get_915e3, Cond.instanceMethod yJx4a65c_get_915e3, Cond.selects RJx4a65c yJx4a65c_get_915e3 yJx4a65c_get_915e3, Cond.code yJx4a65c_get_915e3 cJx4a65c_get_915e3 2 (some (.object "java/lang/Object")), Cond.methodLink RJx4a65c 118 yJ15_checkIndex_7cf53, Cond.static yJ15_checkIndex_7cf53, Cond.initialized RJ15, Cond.code yJ15_checkIndex_7cf53 cJ15_checkIndex_7cf53 2 (some .int), Cond.methodLink RJ15 105 yJ3_checkIndex_8e157, Cond.static yJ3_checkIndex_8e157, Cond.initialized RJ3]
def wsX3_takeWhatIsOver_r2 : List Cond := [Cond.code yJ3_checkIndex_8e157 cJ3_checkIndex_8e157 3 (some .int), Cond.methodLink RJx4a65c 123 yJx4a65c_elementData_915e3, Cond.instanceMethod yJx4a65c_elementData_915e3, Cond.selects RJx4a65c yJx4a65c_elementData_915e3 yJx4a65c_elementData_915e3, Cond.code yJx4a65c_elementData_915e3 cJx4a65c_elementData_915e3 2 (some (.object "java/lang/Object")), Cond.fieldLink RJx4a65c 9 "java/util/ArrayList" "elementData" "[Ljava/lang/Object;", Cond.methodLink RX3 259 yX3_takeAnswer, Cond.instanceMethod yX3_takeAnswer, Cond.selects RX3 yX3_takeAnswer yX3_takeAnswer, Cond.initialized RX3, Cond.code yX3_takeAnswer cX3_takeAnswer 3 none, Cond.fieldLink RX3 263 "FrontDoor$Asking" "fails" "Z", Cond.fieldLink RX3 267 "FrontDoor$Asking" "server" "LFrontDoor$Server;", Cond.fieldLink RX3 56 "FrontDoor$Server" "number" "I", Cond.fieldLink RX3 274 "FrontDoor$Call" "answerer" "I", Cond.fieldLink RX3 284 "FrontDoor$Call" "safe" "Z", Cond.fieldLink RX3 287 "FrontDoor$Call" "due" "I", Cond.fieldLink RX3 164 "FrontDoor" "agains" "I", Cond.methodLink RX3 271 yX2_answer, Cond.instanceMethod yX2_answer, Cond.selects RX2 yX2_answer yX2_answer, Cond.initialized RX2, Cond.code yX2_answer cX2_answer 1 none, Cond.fieldLink RX2 62 "FrontDoor$Server" "answers" "I"]
def wsX3_takeWhatIsOver_r3 : List Cond := [Cond.fieldLink RX2 65 "FrontDoor$Server" "row" "I", Cond.fieldLink RX2 33 "FrontDoor$Server" "penalty" "I", Cond.fieldLink RX2 30 "FrontDoor$Server" "health" "I", Cond.methodLink RX3 124 yX1_callOffAll, Cond.instanceMethod yX1_callOffAll, Cond.selects RX1 yX1_callOffAll yX1_callOffAll, Cond.initialized RX1, Cond.code yX1_callOffAll cX1_callOffAll 1 none, Cond.fieldLink RX1 44 "FrontDoor$Call" "second" "LFrontDoor$Asking;", Cond.fieldLink RX1 40 "FrontDoor$Call" "first" "LFrontDoor$Asking;", Cond.methodLink RX1 62 yX1_letGo, Cond.instanceMethod yX1_letGo, Cond.selects RX1 yX1_letGo yX1_letGo, Cond.code yX1_letGo cX1_letGo 2 none, Cond.fieldLink RX1 50 "FrontDoor$Asking" "server" "LFrontDoor$Server;", Cond.fieldLink RX1 59 "FrontDoor$Server" "open" "I", Cond.methodLink RX3 127 yX3_end, Cond.instanceMethod yX3_end, Cond.selects RX3 yX3_end yX3_end, Cond.code yX3_end cX3_end 3 none, Cond.fieldLink RX3 226 "FrontDoor$Call" "ended" "I", Cond.fieldLink RX3 134 "FrontDoor" "endedSoFar" "I", Cond.methodLink RX3 277 yX1_letGo, Cond.methodLink RX3 280 yX3_failureOf]
def wsX3_takeWhatIsOver_r4 : List Cond := [Cond.instanceMethod yX3_failureOf, Cond.selects RX3 yX3_failureOf yX3_failureOf, Cond.code yX3_failureOf cX3_failureOf 2 none, Cond.fieldLink RX3 293 "FrontDoor$Server" "failures" "I", Cond.fieldLink RX3 83 "FrontDoor$Server" "row" "I", Cond.fieldLink RX3 63 "FrontDoor$Server" "health" "I", Cond.fieldLink RX3 33 "FrontDoor" "limitNow" "I", Cond.methodLink RX3 296 yX3_oneMoreOutIsTooMany, Cond.instanceMethod yX3_oneMoreOutIsTooMany, Cond.selects RX3 yX3_oneMoreOutIsTooMany yX3_oneMoreOutIsTooMany, Cond.code yX3_oneMoreOutIsTooMany cX3_oneMoreOutIsTooMany 5 (some .boolean), Cond.fieldLink RX3 10 "FrontDoor" "servers" "Ljava/util/ArrayList;", Cond.classLink RX3 47 "FrontDoor$Server", Cond.methodLink RX3 299 yX2_goOut, Cond.instanceMethod yX2_goOut, Cond.selects RX2 yX2_goOut yX2_goOut, Cond.code yX2_goOut cX2_goOut 2 none, Cond.fieldLink RX2 68 "FrontDoor$Server" "until" "I", Cond.methodLink RX2 45 Lib.Math.min.name, Cond.static Lib.Math.min.name, Cond.initialized "java/lang/Math", Cond.code Lib.Math.min.name Lib.Math.min.code 2 (some .int), Cond.fieldLink RX2 71 "FrontDoor$Server" "outs" "I", Cond.methodLink RX3 290 yX3_budgetHolds]
def wsX3_takeWhatIsOver_r5 : List Cond := [Cond.instanceMethod yX3_budgetHolds, Cond.selects RX3 yX3_budgetHolds yX3_budgetHolds, Cond.code yX3_budgetHolds cX3_budgetHolds 1 (some .boolean), Cond.fieldLink RX3 36 "FrontDoor" "budgetNow" "I", Cond.fieldLink RX3 16 "FrontDoor" "calls" "Ljava/util/ArrayList;", Cond.methodLink RX3 105 yX3_joinLine, Cond.instanceMethod yX3_joinLine, Cond.selects RX3 yX3_joinLine yX3_joinLine, Cond.code yX3_joinLine cX3_joinLine 3 none, Cond.fieldLink RX3 22 "FrontDoor" "line" "Ljava/util/ArrayList;", Cond.methodLink RX3 217 yX1_goesAheadOf, Cond.instanceMethod yX1_goesAheadOf, Cond.selects RX1 yX1_goesAheadOf yX1_goesAheadOf, Cond.code yX1_goesAheadOf cX1_goesAheadOf 2 (some .boolean), Cond.fieldLink RX1 18 "FrontDoor$Call" "grade" "I", Cond.fieldLink RX1 24 "FrontDoor$Call" "due" "I", Cond.fieldLink RX1 9 "FrontDoor$Call" "number" "I", Cond.methodLink RX3 220 yJx4a65c_add_7a177, Cond.instanceMethod yJx4a65c_add_7a177, Cond.selects RJx4a65c yJx4a65c_add_7a177 yJx4a65c_add_7a177, Cond.code yJx4a65c_add_7a177 cJx4a65c_add_7a177 5 none, Cond.fieldLink RJx4a65c 63 "java/util/ArrayList" "modCount" "I", Cond.sameField "java/util/ArrayList" "java/util/AbstractList" "modCount" "I", Cond.methodLink RJx4a65c 112 arraycopyName]
def wsX3_takeWhatIsOver_r6 : List Cond := [Cond.native arraycopyName, Cond.static arraycopyName, Cond.initialized "java/lang/System", Cond.methodLink RJx4a65c 135 yJx4a65c_rangeCheckForAdd_d00df, Cond.instanceMethod yJx4a65c_rangeCheckForAdd_d00df, Cond.selects RJx4a65c yJx4a65c_rangeCheckForAdd_d00df yJx4a65c_rangeCheckForAdd_d00df, Cond.code yJx4a65c_rangeCheckForAdd_d00df cJx4a65c_rangeCheckForAdd_d00df 2 none, Cond.methodLink RJx4a65c 129 yJx4a65c_grow_d5877, Cond.instanceMethod yJx4a65c_grow_d5877, Cond.selects RJx4a65c yJx4a65c_grow_d5877 yJx4a65c_grow_d5877, Cond.code yJx4a65c_grow_d5877 cJx4a65c_grow_d5877 1 (some (.array (.object "java/lang/Object"))), Cond.methodLink RJx4a65c 69 yJx4a65c_grow_92f84, Cond.instanceMethod yJx4a65c_grow_92f84, Cond.selects RJx4a65c yJx4a65c_grow_92f84 yJx4a65c_grow_92f84, Cond.code yJx4a65c_grow_92f84 cJx4a65c_grow_92f84 4 (some (.array (.object "java/lang/Object"))), Cond.fieldLink RJx4a65c 39 "java/util/ArrayList" "DEFAULTCAPACITY_EMPTY_ELEMENTDATA" "[Ljava/lang/Object;", Cond.methodLink RJx4a65c 79 Lib.Math.max.name, Cond.static Lib.Math.max.name, Cond.code Lib.Math.max.name Lib.Math.max.code 2 (some .int), Cond.classLink RJx4a65c 7 "java/lang/Object", Cond.methodLink RJx4a65c 73 yJ8_newLength_cabcc, Cond.static yJ8_newLength_cabcc, Cond.initialized RJ8, Cond.code yJ8_newLength_cabcc cJ8_newLength_cabcc 4 (some .int)]
def wsX3_takeWhatIsOver_r7 : List Cond := [Cond.methodLink RJ8 194 Lib.Math.max.name, Cond.constant RJ8 200 (2147483639), Cond.methodLink RJ8 201 yJ8_hugeLength_7cf53, Cond.static yJ8_hugeLength_7cf53, Cond.code yJ8_hugeLength_7cf53 cJ8_hugeLength_7cf53 3 (some .int), Cond.methodLink RJx4a65c 66 yJ7_copyOf_1904c, Cond.static yJ7_copyOf_1904c, Cond.initialized RJ7, Cond.code yJ7_copyOf_1904c cJ7_copyOf_1904c 2 (some (.array (.object "java/lang/Object"))), Cond.methodLink RJ7 86 ⟨"java/lang/Object", "getClass", "()Ljava/lang/Class;"⟩, Cond.selects "[Ljava/lang/Object;" ⟨"java/lang/Object", "getClass", "()Ljava/lang/Class;"⟩ ⟨"java/lang/Object", "getClass", "()Ljava/lang/Class;"⟩, Cond.instanceMethod ⟨"java/lang/Object", "getClass", "()Ljava/lang/Class;"⟩, Cond.native ⟨"java/lang/Object", "getClass", "()Ljava/lang/Class;"⟩, Cond.methodLink RJ7 300 yJ7_copyOf_6403c, Cond.static yJ7_copyOf_6403c, Cond.code yJ7_copyOf_6403c cJ7_copyOf_6403c 4 (some (.array (.object "java/lang/Object"))), Cond.classLink RJ7 110 "[Ljava/lang/Object;", Cond.classLink RJ7 2 "java/lang/Object", Cond.methodLink RJ7 304 Lib.Math.min.name, Cond.methodLink RJ7 150 arraycopyName]
def wsX3_takeWhatIsOver : List Cond := .code yX3_takeWhatIsOver cX3_takeWhatIsOver 5 none :: ((wsX3_takeWhatIsOver_r1 ++ (wsX3_takeWhatIsOver_r2 ++ (wsX3_takeWhatIsOver_r3 ++ (wsX3_takeWhatIsOver_r4 ++ (wsX3_takeWhatIsOver_r5 ++ (wsX3_takeWhatIsOver_r6 ++ wsX3_takeWhatIsOver_r7)))))) ++ wsX30 ++ wsX10 ++ wsX00 ++ wsJx4a65c0 ++ wsX20)
def wsX3_failByDue_r1 : List Cond := [Cond.fieldLink RX3 247 "FrontDoor$Call" "first" "LFrontDoor$Asking;", Cond.fieldLink RX3 251 "FrontDoor$Call" "second" "LFrontDoor$Asking;", Cond.fieldLink RX3 267 "FrontDoor$Asking" "server" "LFrontDoor$Server;", Cond.methodLink RX3 124 yX1_callOffAll, Cond.instanceMethod yX1_callOffAll, Cond.selects RX1 yX1_callOffAll yX1_callOffAll, Cond.initialized RX1, Cond.code yX1_callOffAll cX1_callOffAll 1 none, Cond.fieldLink RX1 44 "FrontDoor$Call" "second" "LFrontDoor$Asking;", Cond.fieldLink RX1 40 "FrontDoor$Call" "first" "LFrontDoor$Asking;", Cond.methodLink RX1 62 yX1_letGo, Cond.instanceMethod yX1_letGo, Cond.selects RX1 yX1_letGo yX1_letGo, Cond.code yX1_letGo cX1_letGo 2 none, Cond.fieldLink RX1 50 "FrontDoor$Asking" "server" "LFrontDoor$Server;", Cond.fieldLink RX1 59 "FrontDoor$Server" "open" "I", Cond.methodLink RX3 280 yX3_failureOf, Cond.instanceMethod yX3_failureOf, Cond.selects RX3 yX3_failureOf yX3_failureOf, Cond.initialized RX3, Cond.code yX3_failureOf cX3_failureOf 2 none, Cond.fieldLink RX3 293 "FrontDoor$Server" "failures" "I", Cond.fieldLink RX3 83 "FrontDoor$Server" "row" "I", Cond.fieldLink RX3 63 "FrontDoor$Server" "health" "I"]
def wsX3_failByDue_r2 : List Cond := [Cond.fieldLink RX3 33 "FrontDoor" "limitNow" "I", Cond.fieldLink RX3 95 "FrontDoor" "tick" "I", Cond.methodLink RX3 296 yX3_oneMoreOutIsTooMany, Cond.instanceMethod yX3_oneMoreOutIsTooMany, Cond.selects RX3 yX3_oneMoreOutIsTooMany yX3_oneMoreOutIsTooMany, Cond.code yX3_oneMoreOutIsTooMany cX3_oneMoreOutIsTooMany 5 (some .boolean), Cond.fieldLink RX3 10 "FrontDoor" "servers" "Ljava/util/ArrayList;", Cond.classLink RX3 47 "FrontDoor$Server", Cond.methodLink RX3 43 yJx4a65c_size_8abf5, Cond.instanceMethod yJx4a65c_size_8abf5, Cond.selects RJx4a65c yJx4a65c_size_8abf5 yJx4a65c_size_8abf5, Cond.initialized RJx4a65c, Cond.code yJx4a65c_size_8abf5 cJx4a65c_size_8abf5 1 (some .int), Cond.fieldLink RJx4a65c 48 "java/util/ArrayList" "size" "I", Cond.methodLink RX3 151 yJx4a65c_get_915e3, Cond.instanceMethod yJx4a65c_get_915e3, Cond.selects RJx4a65c yJx4a65c_get_915e3 yJx4a65c_get_915e3, Cond.code yJx4a65c_get_915e3 cJx4a65c_get_915e3 2 (some (.object "java/lang/Object")), Cond.methodLink RJx4a65c 118 yJ15_checkIndex_7cf53, Cond.static yJ15_checkIndex_7cf53, Cond.initialized RJ15, Cond.code yJ15_checkIndex_7cf53 cJ15_checkIndex_7cf53 2 (some .int), Cond.methodLink RJ15 105 yJ3_checkIndex_8e157, Cond.static yJ3_checkIndex_8e157]
def wsX3_failByDue_r3 : List Cond := [Cond.initialized RJ3, Cond.code yJ3_checkIndex_8e157 cJ3_checkIndex_8e157 3 (some .int), Cond.methodLink RJx4a65c 123 yJx4a65c_elementData_915e3, Cond.instanceMethod yJx4a65c_elementData_915e3, Cond.selects RJx4a65c yJx4a65c_elementData_915e3 yJx4a65c_elementData_915e3, Cond.code yJx4a65c_elementData_915e3 cJx4a65c_elementData_915e3 2 (some (.object "java/lang/Object")), Cond.fieldLink RJx4a65c 9 "java/util/ArrayList" "elementData" "[Ljava/lang/Object;", Cond.methodLink RX3 299 yX2_goOut, Cond.instanceMethod yX2_goOut, Cond.selects RX2 yX2_goOut yX2_goOut, Cond.initialized RX2, Cond.code yX2_goOut cX2_goOut 2 none, Cond.fieldLink RX2 30 "FrontDoor$Server" "health" "I", Cond.fieldLink RX2 33 "FrontDoor$Server" "penalty" "I", Cond.fieldLink RX2 68 "FrontDoor$Server" "until" "I", Cond.methodLink RX2 45 Lib.Math.min.name, Cond.static Lib.Math.min.name, Cond.initialized "java/lang/Math", Cond.code Lib.Math.min.name Lib.Math.min.code 2 (some .int), Cond.fieldLink RX2 71 "FrontDoor$Server" "outs" "I", Cond.fieldLink RX2 65 "FrontDoor$Server" "row" "I", Cond.methodLink RX3 127 yX3_end, Cond.instanceMethod yX3_end, Cond.selects RX3 yX3_end yX3_end]
def wsX3_failByDue_r4 : List Cond := [Cond.code yX3_end cX3_end 3 none, Cond.fieldLink RX3 118 "FrontDoor$Call" "state" "I", Cond.fieldLink RX3 226 "FrontDoor$Call" "ended" "I", Cond.fieldLink RX3 134 "FrontDoor" "endedSoFar" "I"]
def wsX3_failByDue : List Cond := .code yX3_failByDue cX3_failByDue 4 none :: ((wsX3_failByDue_r1 ++ (wsX3_failByDue_r2 ++ (wsX3_failByDue_r3 ++ wsX3_failByDue_r4))) ++ wsX10 ++ wsX00 ++ wsX20 ++ wsX30 ++ wsJx4a65c0)
def wsX3_meetDues_r1 : List Cond := [Cond.fieldLink RX3 19 "FrontDoor" "live" "Ljava/util/ArrayList;", Cond.classLink RX3 93 "FrontDoor$Call", Cond.fieldLink RX3 287 "FrontDoor$Call" "due" "I", Cond.fieldLink RX3 95 "FrontDoor" "tick" "I", Cond.fieldLink RX3 118 "FrontDoor$Call" "state" "I", Cond.methodLink RX3 43 yJx4a65c_size_8abf5, Cond.instanceMethod yJx4a65c_size_8abf5, Cond.selects RJx4a65c yJx4a65c_size_8abf5 yJx4a65c_size_8abf5, Cond.initialized RJx4a65c, Cond.code yJx4a65c_size_8abf5 cJx4a65c_size_8abf5 1 (some .int), Cond.fieldLink RJx4a65c 48 "java/util/ArrayList" "size" "I", Cond.methodLink RX3 151 yJx4a65c_get_915e3, Cond.instanceMethod yJx4a65c_get_915e3, Cond.selects RJx4a65c yJx4a65c_get_915e3 yJx4a65c_get_915e3, Cond.code yJx4a65c_get_915e3 cJx4a65c_get_915e3 2 (some (.object "java/lang/Object")), Cond.methodLink RJx4a65c 118 yJ15_checkIndex_7cf53, Cond.static yJ15_checkIndex_7cf53, Cond.initialized RJ15, Cond.code yJ15_checkIndex_7cf53 cJ15_checkIndex_7cf53 2 (some .int), Cond.methodLink RJ15 105 yJ3_checkIndex_8e157, Cond.static yJ3_checkIndex_8e157, Cond.initialized RJ3, Cond.code yJ3_checkIndex_8e157 cJ3_checkIndex_8e157 3 (some .int), Cond.methodLink RJx4a65c 123 yJx4a65c_elementData_915e3]
def wsX3_meetDues_r2 : List Cond := [Cond.instanceMethod yJx4a65c_elementData_915e3, Cond.selects RJx4a65c yJx4a65c_elementData_915e3 yJx4a65c_elementData_915e3, Cond.code yJx4a65c_elementData_915e3 cJx4a65c_elementData_915e3 2 (some (.object "java/lang/Object")), Cond.fieldLink RJx4a65c 9 "java/util/ArrayList" "elementData" "[Ljava/lang/Object;", Cond.methodLink RX3 303 yX3_failByDue, Cond.instanceMethod yX3_failByDue, Cond.selects RX3 yX3_failByDue yX3_failByDue, Cond.initialized RX3, Cond.code yX3_failByDue cX3_failByDue 4 none, Cond.fieldLink RX3 247 "FrontDoor$Call" "first" "LFrontDoor$Asking;", Cond.fieldLink RX3 251 "FrontDoor$Call" "second" "LFrontDoor$Asking;", Cond.fieldLink RX3 267 "FrontDoor$Asking" "server" "LFrontDoor$Server;", Cond.methodLink RX3 124 yX1_callOffAll, Cond.instanceMethod yX1_callOffAll, Cond.selects RX1 yX1_callOffAll yX1_callOffAll, Cond.initialized RX1, Cond.code yX1_callOffAll cX1_callOffAll 1 none, Cond.fieldLink RX1 44 "FrontDoor$Call" "second" "LFrontDoor$Asking;", Cond.fieldLink RX1 40 "FrontDoor$Call" "first" "LFrontDoor$Asking;", Cond.methodLink RX1 62 yX1_letGo, Cond.instanceMethod yX1_letGo, Cond.selects RX1 yX1_letGo yX1_letGo, Cond.code yX1_letGo cX1_letGo 2 none, Cond.fieldLink RX1 50 "FrontDoor$Asking" "server" "LFrontDoor$Server;"]
def wsX3_meetDues_r3 : List Cond := [Cond.fieldLink RX1 59 "FrontDoor$Server" "open" "I", Cond.methodLink RX3 280 yX3_failureOf, Cond.instanceMethod yX3_failureOf, Cond.selects RX3 yX3_failureOf yX3_failureOf, Cond.code yX3_failureOf cX3_failureOf 2 none, Cond.fieldLink RX3 293 "FrontDoor$Server" "failures" "I", Cond.fieldLink RX3 83 "FrontDoor$Server" "row" "I", Cond.fieldLink RX3 63 "FrontDoor$Server" "health" "I", Cond.fieldLink RX3 33 "FrontDoor" "limitNow" "I", Cond.methodLink RX3 296 yX3_oneMoreOutIsTooMany, Cond.instanceMethod yX3_oneMoreOutIsTooMany, Cond.selects RX3 yX3_oneMoreOutIsTooMany yX3_oneMoreOutIsTooMany, Cond.code yX3_oneMoreOutIsTooMany cX3_oneMoreOutIsTooMany 5 (some .boolean), Cond.fieldLink RX3 10 "FrontDoor" "servers" "Ljava/util/ArrayList;", Cond.classLink RX3 47 "FrontDoor$Server", Cond.methodLink RX3 299 yX2_goOut, Cond.instanceMethod yX2_goOut, Cond.selects RX2 yX2_goOut yX2_goOut, Cond.initialized RX2, Cond.code yX2_goOut cX2_goOut 2 none, Cond.fieldLink RX2 30 "FrontDoor$Server" "health" "I", Cond.fieldLink RX2 33 "FrontDoor$Server" "penalty" "I", Cond.fieldLink RX2 68 "FrontDoor$Server" "until" "I", Cond.methodLink RX2 45 Lib.Math.min.name]
def wsX3_meetDues_r4 : List Cond := [Cond.static Lib.Math.min.name, Cond.initialized "java/lang/Math", Cond.code Lib.Math.min.name Lib.Math.min.code 2 (some .int), Cond.fieldLink RX2 71 "FrontDoor$Server" "outs" "I", Cond.fieldLink RX2 65 "FrontDoor$Server" "row" "I", Cond.methodLink RX3 127 yX3_end, Cond.instanceMethod yX3_end, Cond.selects RX3 yX3_end yX3_end, Cond.code yX3_end cX3_end 3 none, Cond.fieldLink RX3 226 "FrontDoor$Call" "ended" "I", Cond.fieldLink RX3 134 "FrontDoor" "endedSoFar" "I", Cond.methodLink RX3 121 yX3_leaveLine, Cond.instanceMethod yX3_leaveLine, Cond.selects RX3 yX3_leaveLine yX3_leaveLine, Cond.code yX3_leaveLine cX3_leaveLine 3 none, Cond.fieldLink RX3 22 "FrontDoor" "line" "Ljava/util/ArrayList;", Cond.fieldLink RX3 109 "FrontDoor$Call" "number" "I", Cond.methodLink RX3 223 yJx4a65c_remove_915e3, Cond.instanceMethod yJx4a65c_remove_915e3, Cond.selects RJx4a65c yJx4a65c_remove_915e3 yJx4a65c_remove_915e3, Cond.code yJx4a65c_remove_915e3 cJx4a65c_remove_915e3 4 (some (.object "java/lang/Object")), Cond.methodLink RJx4a65c 144 yJx4a65c_fastRemove_b59b0, Cond.instanceMethod yJx4a65c_fastRemove_b59b0, Cond.selects RJx4a65c yJx4a65c_fastRemove_b59b0 yJx4a65c_fastRemove_b59b0]
def wsX3_meetDues_r5 : List Cond := [Cond.code yJx4a65c_fastRemove_b59b0 cJx4a65c_fastRemove_b59b0 4 none, Cond.fieldLink RJx4a65c 63 "java/util/ArrayList" "modCount" "I", Cond.sameField "java/util/ArrayList" "java/util/AbstractList" "modCount" "I", Cond.methodLink RJx4a65c 112 arraycopyName, Cond.native arraycopyName, Cond.static arraycopyName, Cond.initialized "java/lang/System"]
def wsX3_meetDues : List Cond := .code yX3_meetDues cX3_meetDues 3 none :: ((wsX3_meetDues_r1 ++ (wsX3_meetDues_r2 ++ (wsX3_meetDues_r3 ++ (wsX3_meetDues_r4 ++ wsX3_meetDues_r5)))) ++ wsX30 ++ wsX10 ++ wsJx4a65c0 ++ wsX00 ++ wsX20)
def wsX3_tryThoseOut_r1 : List Cond := [Cond.fieldLink RX3 10 "FrontDoor" "servers" "Ljava/util/ArrayList;", Cond.classLink RX3 47 "FrontDoor$Server", Cond.fieldLink RX3 63 "FrontDoor$Server" "health" "I", Cond.fieldLink RX3 306 "FrontDoor$Server" "until" "I", Cond.fieldLink RX3 95 "FrontDoor" "tick" "I", Cond.methodLink RX3 43 yJx4a65c_size_8abf5, Cond.instanceMethod yJx4a65c_size_8abf5, Cond.selects RJx4a65c yJx4a65c_size_8abf5 yJx4a65c_size_8abf5, Cond.initialized RJx4a65c, Cond.code yJx4a65c_size_8abf5 cJx4a65c_size_8abf5 1 (some .int), Cond.fieldLink RJx4a65c 48 "java/util/ArrayList" "size" "I", Cond.methodLink RX3 151 yJx4a65c_get_915e3, Cond.instanceMethod yJx4a65c_get_915e3, Cond.selects RJx4a65c yJx4a65c_get_915e3 yJx4a65c_get_915e3, Cond.code yJx4a65c_get_915e3 cJx4a65c_get_915e3 2 (some (.object "java/lang/Object")), Cond.methodLink RJx4a65c 118 yJ15_checkIndex_7cf53, Cond.static yJ15_checkIndex_7cf53, Cond.initialized RJ15, Cond.code yJ15_checkIndex_7cf53 cJ15_checkIndex_7cf53 2 (some .int), Cond.methodLink RJ15 105 yJ3_checkIndex_8e157, Cond.static yJ3_checkIndex_8e157, Cond.initialized RJ3, Cond.code yJ3_checkIndex_8e157 cJ3_checkIndex_8e157 3 (some .int), Cond.methodLink RJx4a65c 123 yJx4a65c_elementData_915e3]
def wsX3_tryThoseOut_r2 : List Cond := [Cond.instanceMethod yJx4a65c_elementData_915e3, Cond.selects RJx4a65c yJx4a65c_elementData_915e3 yJx4a65c_elementData_915e3, Cond.code yJx4a65c_elementData_915e3 cJx4a65c_elementData_915e3 2 (some (.object "java/lang/Object")), Cond.fieldLink RJx4a65c 9 "java/util/ArrayList" "elementData" "[Ljava/lang/Object;"]
def wsX3_tryThoseOut : List Cond := .code yX3_tryThoseOut cX3_tryThoseOut 3 none :: ((wsX3_tryThoseOut_r1 ++ wsX3_tryThoseOut_r2) ++ wsX30 ++ wsX20 ++ wsJx4a65c0)
def wsX3_hedgeSlow_r1 : List Cond := [Cond.fieldLink RX3 89 "FrontDoor" "hedgeNow" "I", Cond.fieldLink RX3 19 "FrontDoor" "live" "Ljava/util/ArrayList;", Cond.classLink RX3 93 "FrontDoor$Call", Cond.fieldLink RX3 251 "FrontDoor$Call" "second" "LFrontDoor$Asking;", Cond.fieldLink RX3 247 "FrontDoor$Call" "first" "LFrontDoor$Asking;", Cond.fieldLink RX3 284 "FrontDoor$Call" "safe" "Z", Cond.fieldLink RX3 309 "FrontDoor$Asking" "since" "I", Cond.fieldLink RX3 95 "FrontDoor" "tick" "I", Cond.fieldLink RX3 202 "FrontDoor$Call" "tried" "I", Cond.fieldLink RX3 167 "FrontDoor" "seconds" "I", Cond.methodLink RX3 43 yJx4a65c_size_8abf5, Cond.instanceMethod yJx4a65c_size_8abf5, Cond.selects RJx4a65c yJx4a65c_size_8abf5 yJx4a65c_size_8abf5, Cond.initialized RJx4a65c, Cond.code yJx4a65c_size_8abf5 cJx4a65c_size_8abf5 1 (some .int), Cond.fieldLink RJx4a65c 48 "java/util/ArrayList" "size" "I", Cond.methodLink RX3 151 yJx4a65c_get_915e3, Cond.instanceMethod yJx4a65c_get_915e3, Cond.selects RJx4a65c yJx4a65c_get_915e3 yJx4a65c_get_915e3, Cond.code yJx4a65c_get_915e3 cJx4a65c_get_915e3 2 (some (.object "java/lang/Object")), Cond.methodLink RJx4a65c 118 yJ15_checkIndex_7cf53, Cond.static yJ15_checkIndex_7cf53, Cond.initialized RJ15, Cond.code yJ15_checkIndex_7cf53 cJ15_checkIndex_7cf53 2 (some .int)]
def wsX3_hedgeSlow_r2 : List Cond := [Cond.methodLink RJ15 105 yJ3_checkIndex_8e157, Cond.static yJ3_checkIndex_8e157, Cond.initialized RJ3, Cond.code yJ3_checkIndex_8e157 cJ3_checkIndex_8e157 3 (some .int), Cond.methodLink RJx4a65c 123 yJx4a65c_elementData_915e3, Cond.instanceMethod yJx4a65c_elementData_915e3, Cond.selects RJx4a65c yJx4a65c_elementData_915e3 yJx4a65c_elementData_915e3, Cond.code yJx4a65c_elementData_915e3 cJx4a65c_elementData_915e3 2 (some (.object "java/lang/Object")), Cond.fieldLink RJx4a65c 9 "java/util/ArrayList" "elementData" "[Ljava/lang/Object;", Cond.methodLink RX3 179 yX3_byFewest, Cond.instanceMethod yX3_byFewest, Cond.selects RX3 yX3_byFewest yX3_byFewest, Cond.initialized RX3, Cond.code yX3_byFewest cX3_byFewest 7 (some (.object "FrontDoor$Server")), Cond.fieldLink RX3 10 "FrontDoor" "servers" "Ljava/util/ArrayList;", Cond.classLink RX3 47 "FrontDoor$Server", Cond.fieldLink RX3 192 "FrontDoor$Server" "zone" "I", Cond.fieldLink RX3 80 "FrontDoor$Server" "open" "I", Cond.fieldLink RX3 189 "FrontDoor$Server" "weight" "I", Cond.methodLink RX3 182 yX2_mayBeAsked, Cond.instanceMethod yX2_mayBeAsked, Cond.selects RX2 yX2_mayBeAsked yX2_mayBeAsked, Cond.initialized RX2, Cond.code yX2_mayBeAsked cX2_mayBeAsked 2 (some .boolean)]
def wsX3_hedgeSlow_r3 : List Cond := [Cond.fieldLink RX2 9 "FrontDoor$Server" "number" "I", Cond.fieldLink RX2 36 "FrontDoor$Server" "open" "I", Cond.fieldLink RX2 21 "FrontDoor$Server" "room" "I", Cond.fieldLink RX2 30 "FrontDoor$Server" "health" "I", Cond.methodLink RX3 209 yX2_takeAsking, Cond.instanceMethod yX2_takeAsking, Cond.selects RX2 yX2_takeAsking yX2_takeAsking, Cond.code yX2_takeAsking cX2_takeAsking 4 (some (.object "FrontDoor$Asking")), Cond.fieldLink RX2 51 "FrontDoor$Server" "asked" "I", Cond.fieldLink RX2 54 "FrontDoor$Server" "mute" "I", Cond.fieldLink RX2 24 "FrontDoor$Server" "pace" "I", Cond.fieldLink RX2 27 "FrontDoor$Server" "breaks" "I", Cond.classLink RX2 57 RX0, Cond.instantiable RX0 4, Cond.initialized RX0, Cond.methodLink RX2 59 yX0_init, Cond.instanceMethod yX0_init, Cond.code yX0_init cX0_init 5 none, Cond.methodLink RX0 1 objectInit, Cond.instanceMethod objectInit, Cond.code objectInit ⟨#[0xb1]⟩ 1 none, Cond.fieldLink RX0 7 "FrontDoor$Asking" "server" "LFrontDoor$Server;", Cond.fieldLink RX0 13 "FrontDoor$Asking" "since" "I", Cond.fieldLink RX0 17 "FrontDoor$Asking" "over" "I"]
def wsX3_hedgeSlow_r4 : List Cond := [Cond.fieldLink RX0 20 "FrontDoor$Asking" "fails" "Z", Cond.methodLink RX3 213 yX1_begin, Cond.instanceMethod yX1_begin, Cond.selects RX1 yX1_begin yX1_begin, Cond.initialized RX1, Cond.code yX1_begin cX1_begin 2 none, Cond.fieldLink RX1 40 "FrontDoor$Call" "first" "LFrontDoor$Asking;", Cond.fieldLink RX1 44 "FrontDoor$Call" "second" "LFrontDoor$Asking;", Cond.fieldLink RX1 47 "FrontDoor$Call" "tried" "I", Cond.fieldLink RX1 50 "FrontDoor$Asking" "server" "LFrontDoor$Server;", Cond.fieldLink RX1 56 "FrontDoor$Server" "number" "I", Cond.fieldLink RX1 31 "FrontDoor$Call" "state" "I"]
def wsX3_hedgeSlow : List Cond := .code yX3_hedgeSlow cX3_hedgeSlow 5 none :: ((wsX3_hedgeSlow_r1 ++ (wsX3_hedgeSlow_r2 ++ (wsX3_hedgeSlow_r3 ++ wsX3_hedgeSlow_r4))) ++ wsX30 ++ wsX10 ++ wsX00 ++ wsJx4a65c0 ++ wsX20)
def wsX3_askQueued_r1 : List Cond := [Cond.fieldLink RX3 22 "FrontDoor" "line" "Ljava/util/ArrayList;", Cond.classLink RX3 93 "FrontDoor$Call", Cond.methodLink RX3 43 yJx4a65c_size_8abf5, Cond.instanceMethod yJx4a65c_size_8abf5, Cond.selects RJx4a65c yJx4a65c_size_8abf5 yJx4a65c_size_8abf5, Cond.initialized RJx4a65c, Cond.code yJx4a65c_size_8abf5 cJx4a65c_size_8abf5 1 (some .int), Cond.fieldLink RJx4a65c 48 "java/util/ArrayList" "size" "I", Cond.methodLink RX3 151 yJx4a65c_get_915e3, Cond.instanceMethod yJx4a65c_get_915e3, Cond.selects RJx4a65c yJx4a65c_get_915e3 yJx4a65c_get_915e3, Cond.code yJx4a65c_get_915e3 cJx4a65c_get_915e3 2 (some (.object "java/lang/Object")), Cond.methodLink RJx4a65c 118 yJ15_checkIndex_7cf53, Cond.static yJ15_checkIndex_7cf53, Cond.initialized RJ15, Cond.code yJ15_checkIndex_7cf53 cJ15_checkIndex_7cf53 2 (some .int), Cond.methodLink RJ15 105 yJ3_checkIndex_8e157, Cond.static yJ3_checkIndex_8e157, Cond.initialized RJ3, Cond.code yJ3_checkIndex_8e157 cJ3_checkIndex_8e157 3 (some .int), Cond.methodLink RJx4a65c 123 yJx4a65c_elementData_915e3, Cond.instanceMethod yJx4a65c_elementData_915e3, Cond.selects RJx4a65c yJx4a65c_elementData_915e3 yJx4a65c_elementData_915e3, Cond.code yJx4a65c_elementData_915e3 cJx4a65c_elementData_915e3 2 (some (.object "java/lang/Object"))]
def wsX3_askQueued_r2 : List Cond := [Cond.fieldLink RJx4a65c 9 "java/util/ArrayList" "elementData" "[Ljava/lang/Object;", Cond.methodLink RX3 101 yX3_askByRule, Cond.instanceMethod yX3_askByRule, Cond.selects RX3 yX3_askByRule yX3_askByRule, Cond.initialized RX3, Cond.code yX3_askByRule cX3_askByRule 3 (some .boolean), Cond.fieldLink RX3 199 "FrontDoor$Call" "key" "I", Cond.fieldLink RX3 202 "FrontDoor$Call" "tried" "I", Cond.fieldLink RX3 29 "FrontDoor" "ruleNow" "I", Cond.fieldLink RX3 95 "FrontDoor" "tick" "I", Cond.methodLink RX3 140 yX3_chosen, Cond.instanceMethod yX3_chosen, Cond.selects RX3 yX3_chosen yX3_chosen, Cond.code yX3_chosen cX3_chosen 4 (some (.object "FrontDoor$Server")), Cond.methodLink RX3 173 yX3_byTurn, Cond.instanceMethod yX3_byTurn, Cond.selects RX3 yX3_byTurn yX3_byTurn, Cond.code yX3_byTurn cX3_byTurn 5 (some (.object "FrontDoor$Server")), Cond.fieldLink RX3 10 "FrontDoor" "servers" "Ljava/util/ArrayList;", Cond.classLink RX3 47 "FrontDoor$Server", Cond.fieldLink RX3 186 "FrontDoor$Server" "credit" "I", Cond.fieldLink RX3 189 "FrontDoor$Server" "weight" "I", Cond.methodLink RX3 182 yX2_mayBeAsked, Cond.instanceMethod yX2_mayBeAsked]
def wsX3_askQueued_r3 : List Cond := [Cond.selects RX2 yX2_mayBeAsked yX2_mayBeAsked, Cond.initialized RX2, Cond.code yX2_mayBeAsked cX2_mayBeAsked 2 (some .boolean), Cond.fieldLink RX2 9 "FrontDoor$Server" "number" "I", Cond.fieldLink RX2 36 "FrontDoor$Server" "open" "I", Cond.fieldLink RX2 21 "FrontDoor$Server" "room" "I", Cond.fieldLink RX2 30 "FrontDoor$Server" "health" "I", Cond.methodLink RX3 176 yX3_byRing, Cond.instanceMethod yX3_byRing, Cond.selects RX3 yX3_byRing yX3_byRing, Cond.code yX3_byRing cX3_byRing 7 (some (.object "FrontDoor$Server")), Cond.constant RX3 195 (65536), Cond.methodLink RX3 196 yX2_wayFrom, Cond.instanceMethod yX2_wayFrom, Cond.selects RX2 yX2_wayFrom yX2_wayFrom, Cond.code yX2_wayFrom cX2_wayFrom 4 (some .int), Cond.constant RX2 40 (65535), Cond.methodLink RX2 45 Lib.Math.min.name, Cond.static Lib.Math.min.name, Cond.initialized "java/lang/Math", Cond.code Lib.Math.min.name Lib.Math.min.code 2 (some .int), Cond.methodLink RX2 41 yX2_placeOfMark, Cond.instanceMethod yX2_placeOfMark, Cond.selects RX2 yX2_placeOfMark yX2_placeOfMark]
def wsX3_askQueued_r4 : List Cond := [Cond.code yX2_placeOfMark cX2_placeOfMark 2 (some .int), Cond.constant RX2 39 (40503), Cond.methodLink RX3 179 yX3_byFewest, Cond.instanceMethod yX3_byFewest, Cond.selects RX3 yX3_byFewest yX3_byFewest, Cond.code yX3_byFewest cX3_byFewest 7 (some (.object "FrontDoor$Server")), Cond.fieldLink RX3 192 "FrontDoor$Server" "zone" "I", Cond.fieldLink RX3 80 "FrontDoor$Server" "open" "I", Cond.methodLink RX3 205 yX3_settleCredits, Cond.instanceMethod yX3_settleCredits, Cond.selects RX3 yX3_settleCredits yX3_settleCredits, Cond.code yX3_settleCredits cX3_settleCredits 6 none, Cond.methodLink RX3 209 yX2_takeAsking, Cond.instanceMethod yX2_takeAsking, Cond.selects RX2 yX2_takeAsking yX2_takeAsking, Cond.code yX2_takeAsking cX2_takeAsking 4 (some (.object "FrontDoor$Asking")), Cond.fieldLink RX2 51 "FrontDoor$Server" "asked" "I", Cond.fieldLink RX2 54 "FrontDoor$Server" "mute" "I", Cond.fieldLink RX2 24 "FrontDoor$Server" "pace" "I", Cond.fieldLink RX2 27 "FrontDoor$Server" "breaks" "I", Cond.classLink RX2 57 RX0, Cond.instantiable RX0 4, Cond.initialized RX0, Cond.methodLink RX2 59 yX0_init]
def wsX3_askQueued_r5 : List Cond := [Cond.instanceMethod yX0_init, Cond.code yX0_init cX0_init 5 none, Cond.methodLink RX0 1 objectInit, Cond.instanceMethod objectInit, Cond.code objectInit ⟨#[0xb1]⟩ 1 none, Cond.fieldLink RX0 7 "FrontDoor$Asking" "server" "LFrontDoor$Server;", Cond.fieldLink RX0 13 "FrontDoor$Asking" "since" "I", Cond.fieldLink RX0 17 "FrontDoor$Asking" "over" "I", Cond.fieldLink RX0 20 "FrontDoor$Asking" "fails" "Z", Cond.methodLink RX3 213 yX1_begin, Cond.instanceMethod yX1_begin, Cond.selects RX1 yX1_begin yX1_begin, Cond.initialized RX1, Cond.code yX1_begin cX1_begin 2 none, Cond.fieldLink RX1 40 "FrontDoor$Call" "first" "LFrontDoor$Asking;", Cond.fieldLink RX1 44 "FrontDoor$Call" "second" "LFrontDoor$Asking;", Cond.fieldLink RX1 47 "FrontDoor$Call" "tried" "I", Cond.fieldLink RX1 50 "FrontDoor$Asking" "server" "LFrontDoor$Server;", Cond.fieldLink RX1 56 "FrontDoor$Server" "number" "I", Cond.fieldLink RX1 31 "FrontDoor$Call" "state" "I", Cond.methodLink RX3 223 yJx4a65c_remove_915e3, Cond.instanceMethod yJx4a65c_remove_915e3, Cond.selects RJx4a65c yJx4a65c_remove_915e3 yJx4a65c_remove_915e3, Cond.code yJx4a65c_remove_915e3 cJx4a65c_remove_915e3 4 (some (.object "java/lang/Object"))]
def wsX3_askQueued_r6 : List Cond := [Cond.methodLink RJx4a65c 144 yJx4a65c_fastRemove_b59b0, Cond.instanceMethod yJx4a65c_fastRemove_b59b0, Cond.selects RJx4a65c yJx4a65c_fastRemove_b59b0 yJx4a65c_fastRemove_b59b0, Cond.code yJx4a65c_fastRemove_b59b0 cJx4a65c_fastRemove_b59b0 4 none, Cond.fieldLink RJx4a65c 63 "java/util/ArrayList" "modCount" "I", Cond.sameField "java/util/ArrayList" "java/util/AbstractList" "modCount" "I", Cond.methodLink RJx4a65c 112 arraycopyName, Cond.native arraycopyName, Cond.static arraycopyName, Cond.initialized "java/lang/System"]
def wsX3_askQueued : List Cond := .code yX3_askQueued cX3_askQueued 4 none :: ((wsX3_askQueued_r1 ++ (wsX3_askQueued_r2 ++ (wsX3_askQueued_r3 ++ (wsX3_askQueued_r4 ++ (wsX3_askQueued_r5 ++ wsX3_askQueued_r6))))) ++ wsX30 ++ wsJx4a65c0 ++ wsX10 ++ wsX20 ++ wsX00)
def wsX3_letDrainedGo_r1 : List Cond := [Cond.fieldLink RX3 10 "FrontDoor" "servers" "Ljava/util/ArrayList;", Cond.classLink RX3 47 "FrontDoor$Server", Cond.fieldLink RX3 63 "FrontDoor$Server" "health" "I", Cond.fieldLink RX3 80 "FrontDoor$Server" "open" "I", Cond.methodLink RX3 43 yJx4a65c_size_8abf5, Cond.instanceMethod yJx4a65c_size_8abf5, Cond.selects RJx4a65c yJx4a65c_size_8abf5 yJx4a65c_size_8abf5, Cond.initialized RJx4a65c, Cond.code yJx4a65c_size_8abf5 cJx4a65c_size_8abf5 1 (some .int), Cond.fieldLink RJx4a65c 48 "java/util/ArrayList" "size" "I", Cond.methodLink RX3 151 yJx4a65c_get_915e3, Cond.instanceMethod yJx4a65c_get_915e3, Cond.selects RJx4a65c yJx4a65c_get_915e3 yJx4a65c_get_915e3, Cond.code yJx4a65c_get_915e3 cJx4a65c_get_915e3 2 (some (.object "java/lang/Object")), Cond.methodLink RJx4a65c 118 yJ15_checkIndex_7cf53, Cond.static yJ15_checkIndex_7cf53, Cond.initialized RJ15, Cond.code yJ15_checkIndex_7cf53 cJ15_checkIndex_7cf53 2 (some .int), Cond.methodLink RJ15 105 yJ3_checkIndex_8e157, Cond.static yJ3_checkIndex_8e157, Cond.initialized RJ3, Cond.code yJ3_checkIndex_8e157 cJ3_checkIndex_8e157 3 (some .int), Cond.methodLink RJx4a65c 123 yJx4a65c_elementData_915e3, Cond.instanceMethod yJx4a65c_elementData_915e3]
def wsX3_letDrainedGo_r2 : List Cond := [Cond.selects RJx4a65c yJx4a65c_elementData_915e3 yJx4a65c_elementData_915e3, Cond.code yJx4a65c_elementData_915e3 cJx4a65c_elementData_915e3 2 (some (.object "java/lang/Object")), Cond.fieldLink RJx4a65c 9 "java/util/ArrayList" "elementData" "[Ljava/lang/Object;"]
def wsX3_letDrainedGo : List Cond := .code yX3_letDrainedGo cX3_letDrainedGo 3 none :: ((wsX3_letDrainedGo_r1 ++ wsX3_letDrainedGo_r2) ++ wsX30 ++ wsX20 ++ wsJx4a65c0)
def wsX3_passTick_r1 : List Cond := [Cond.fieldLink RX3 95 "FrontDoor" "tick" "I", Cond.methodLink RX3 229 yX3_takeWhatIsOver, Cond.instanceMethod yX3_takeWhatIsOver, Cond.selects RX3 yX3_takeWhatIsOver yX3_takeWhatIsOver, Cond.initialized RX3, Cond.code yX3_takeWhatIsOver cX3_takeWhatIsOver 5 none, Cond.fieldLink RX3 19 "FrontDoor" "live" "Ljava/util/ArrayList;", Cond.classLink RX3 93 "FrontDoor$Call", Cond.fieldLink RX3 247 "FrontDoor$Call" "first" "LFrontDoor$Asking;", Cond.fieldLink RX3 251 "FrontDoor$Call" "second" "LFrontDoor$Asking;", Cond.fieldLink RX3 254 "FrontDoor$Asking" "over" "I", Cond.fieldLink RX3 118 "FrontDoor$Call" "state" "I", Cond.methodLink RX3 43 yJx4a65c_size_8abf5, Cond.instanceMethod yJx4a65c_size_8abf5, Cond.selects RJx4a65c yJx4a65c_size_8abf5 yJx4a65c_size_8abf5, Cond.initialized RJx4a65c, Cond.code yJx4a65c_size_8abf5 cJx4a65c_size_8abf5 1 (some .int), Cond.fieldLink RJx4a65c 48 "java/util/ArrayList" "size" "I", Cond.methodLink RX3 151 yJx4a65c_get_915e3, Cond.instanceMethod yJx4a65c_get_915e3, Cond.selects RJx4a65c yJx4a65c_get_915e3 yJx4a65c_get_915e3, Cond.code yJx4a65c_get_915e3 cJx4a65c_get_915e3 2 (some (.object "java/lang/Object")), Cond.methodLink RJx4a65c 118 yJ15_checkIndex_7cf53, Cond.static yJ15_checkIndex_7cf53]
def wsX3_passTick_r2 : List Cond := [Cond.initialized RJ15, Cond.code yJ15_checkIndex_7cf53 cJ15_checkIndex_7cf53 2 (some .int), Cond.methodLink RJ15 105 yJ3_checkIndex_8e157, Cond.static yJ3_checkIndex_8e157, Cond.initialized RJ3, Cond.code yJ3_checkIndex_8e157 cJ3_checkIndex_8e157 3 (some .int), Cond.methodLink RJx4a65c 123 yJx4a65c_elementData_915e3, Cond.instanceMethod yJx4a65c_elementData_915e3, Cond.selects RJx4a65c yJx4a65c_elementData_915e3 yJx4a65c_elementData_915e3, Cond.code yJx4a65c_elementData_915e3 cJx4a65c_elementData_915e3 2 (some (.object "java/lang/Object")), Cond.fieldLink RJx4a65c 9 "java/util/ArrayList" "elementData" "[Ljava/lang/Object;", Cond.methodLink RX3 259 yX3_takeAnswer, Cond.instanceMethod yX3_takeAnswer, Cond.selects RX3 yX3_takeAnswer yX3_takeAnswer, Cond.code yX3_takeAnswer cX3_takeAnswer 3 none, Cond.fieldLink RX3 263 "FrontDoor$Asking" "fails" "Z", Cond.fieldLink RX3 267 "FrontDoor$Asking" "server" "LFrontDoor$Server;", Cond.fieldLink RX3 56 "FrontDoor$Server" "number" "I", Cond.fieldLink RX3 274 "FrontDoor$Call" "answerer" "I", Cond.fieldLink RX3 284 "FrontDoor$Call" "safe" "Z", Cond.fieldLink RX3 287 "FrontDoor$Call" "due" "I", Cond.fieldLink RX3 164 "FrontDoor" "agains" "I", Cond.methodLink RX3 271 yX2_answer, Cond.instanceMethod yX2_answer]
def wsX3_passTick_r3 : List Cond := [Cond.selects RX2 yX2_answer yX2_answer, Cond.initialized RX2, Cond.code yX2_answer cX2_answer 1 none, Cond.fieldLink RX2 62 "FrontDoor$Server" "answers" "I", Cond.fieldLink RX2 65 "FrontDoor$Server" "row" "I", Cond.fieldLink RX2 33 "FrontDoor$Server" "penalty" "I", Cond.fieldLink RX2 30 "FrontDoor$Server" "health" "I", Cond.methodLink RX3 124 yX1_callOffAll, Cond.instanceMethod yX1_callOffAll, Cond.selects RX1 yX1_callOffAll yX1_callOffAll, Cond.initialized RX1, Cond.code yX1_callOffAll cX1_callOffAll 1 none, Cond.fieldLink RX1 44 "FrontDoor$Call" "second" "LFrontDoor$Asking;", Cond.fieldLink RX1 40 "FrontDoor$Call" "first" "LFrontDoor$Asking;", Cond.methodLink RX1 62 yX1_letGo, Cond.instanceMethod yX1_letGo, Cond.selects RX1 yX1_letGo yX1_letGo, Cond.code yX1_letGo cX1_letGo 2 none, Cond.fieldLink RX1 50 "FrontDoor$Asking" "server" "LFrontDoor$Server;", Cond.fieldLink RX1 59 "FrontDoor$Server" "open" "I", Cond.methodLink RX3 127 yX3_end, Cond.instanceMethod yX3_end, Cond.selects RX3 yX3_end yX3_end, Cond.code yX3_end cX3_end 3 none]
def wsX3_passTick_r4 : List Cond := [Cond.fieldLink RX3 226 "FrontDoor$Call" "ended" "I", Cond.fieldLink RX3 134 "FrontDoor" "endedSoFar" "I", Cond.methodLink RX3 277 yX1_letGo, Cond.methodLink RX3 280 yX3_failureOf, Cond.instanceMethod yX3_failureOf, Cond.selects RX3 yX3_failureOf yX3_failureOf, Cond.code yX3_failureOf cX3_failureOf 2 none, Cond.fieldLink RX3 293 "FrontDoor$Server" "failures" "I", Cond.fieldLink RX3 83 "FrontDoor$Server" "row" "I", Cond.fieldLink RX3 63 "FrontDoor$Server" "health" "I", Cond.fieldLink RX3 33 "FrontDoor" "limitNow" "I", Cond.methodLink RX3 296 yX3_oneMoreOutIsTooMany, Cond.instanceMethod yX3_oneMoreOutIsTooMany, Cond.selects RX3 yX3_oneMoreOutIsTooMany yX3_oneMoreOutIsTooMany, Cond.code yX3_oneMoreOutIsTooMany cX3_oneMoreOutIsTooMany 5 (some .boolean), Cond.fieldLink RX3 10 "FrontDoor" "servers" "Ljava/util/ArrayList;", Cond.classLink RX3 47 "FrontDoor$Server", Cond.methodLink RX3 299 yX2_goOut, Cond.instanceMethod yX2_goOut, Cond.selects RX2 yX2_goOut yX2_goOut, Cond.code yX2_goOut cX2_goOut 2 none, Cond.fieldLink RX2 68 "FrontDoor$Server" "until" "I", Cond.methodLink RX2 45 Lib.Math.min.name, Cond.static Lib.Math.min.name]
def wsX3_passTick_r5 : List Cond := [Cond.initialized "java/lang/Math", Cond.code Lib.Math.min.name Lib.Math.min.code 2 (some .int), Cond.fieldLink RX2 71 "FrontDoor$Server" "outs" "I", Cond.methodLink RX3 290 yX3_budgetHolds, Cond.instanceMethod yX3_budgetHolds, Cond.selects RX3 yX3_budgetHolds yX3_budgetHolds, Cond.code yX3_budgetHolds cX3_budgetHolds 1 (some .boolean), Cond.fieldLink RX3 36 "FrontDoor" "budgetNow" "I", Cond.fieldLink RX3 16 "FrontDoor" "calls" "Ljava/util/ArrayList;", Cond.methodLink RX3 105 yX3_joinLine, Cond.instanceMethod yX3_joinLine, Cond.selects RX3 yX3_joinLine yX3_joinLine, Cond.code yX3_joinLine cX3_joinLine 3 none, Cond.fieldLink RX3 22 "FrontDoor" "line" "Ljava/util/ArrayList;", Cond.methodLink RX3 217 yX1_goesAheadOf, Cond.instanceMethod yX1_goesAheadOf, Cond.selects RX1 yX1_goesAheadOf yX1_goesAheadOf, Cond.code yX1_goesAheadOf cX1_goesAheadOf 2 (some .boolean), Cond.fieldLink RX1 18 "FrontDoor$Call" "grade" "I", Cond.fieldLink RX1 24 "FrontDoor$Call" "due" "I", Cond.fieldLink RX1 9 "FrontDoor$Call" "number" "I", Cond.methodLink RX3 220 yJx4a65c_add_7a177, Cond.instanceMethod yJx4a65c_add_7a177, Cond.selects RJx4a65c yJx4a65c_add_7a177 yJx4a65c_add_7a177]
def wsX3_passTick_r6 : List Cond := [Cond.code yJx4a65c_add_7a177 cJx4a65c_add_7a177 5 none, Cond.fieldLink RJx4a65c 63 "java/util/ArrayList" "modCount" "I", Cond.sameField "java/util/ArrayList" "java/util/AbstractList" "modCount" "I", Cond.methodLink RJx4a65c 112 arraycopyName, Cond.native arraycopyName, Cond.static arraycopyName, Cond.initialized "java/lang/System", Cond.methodLink RJx4a65c 135 yJx4a65c_rangeCheckForAdd_d00df, Cond.instanceMethod yJx4a65c_rangeCheckForAdd_d00df, Cond.selects RJx4a65c yJx4a65c_rangeCheckForAdd_d00df yJx4a65c_rangeCheckForAdd_d00df, Cond.code yJx4a65c_rangeCheckForAdd_d00df cJx4a65c_rangeCheckForAdd_d00df 2 none, Cond.methodLink RJx4a65c 129 yJx4a65c_grow_d5877, Cond.instanceMethod yJx4a65c_grow_d5877, Cond.selects RJx4a65c yJx4a65c_grow_d5877 yJx4a65c_grow_d5877, Cond.code yJx4a65c_grow_d5877 cJx4a65c_grow_d5877 1 (some (.array (.object "java/lang/Object"))), Cond.methodLink RJx4a65c 69 yJx4a65c_grow_92f84, Cond.instanceMethod yJx4a65c_grow_92f84, Cond.selects RJx4a65c yJx4a65c_grow_92f84 yJx4a65c_grow_92f84, Cond.code yJx4a65c_grow_92f84 cJx4a65c_grow_92f84 4 (some (.array (.object "java/lang/Object"))), Cond.fieldLink RJx4a65c 39 "java/util/ArrayList" "DEFAULTCAPACITY_EMPTY_ELEMENTDATA" "[Ljava/lang/Object;", Cond.methodLink RJx4a65c 79 Lib.Math.max.name, Cond.static Lib.Math.max.name, Cond.code Lib.Math.max.name Lib.Math.max.code 2 (some .int), Cond.classLink RJx4a65c 7 "java/lang/Object"]
def wsX3_passTick_r7 : List Cond := [Cond.methodLink RJx4a65c 73 yJ8_newLength_cabcc, Cond.static yJ8_newLength_cabcc, Cond.initialized RJ8, Cond.code yJ8_newLength_cabcc cJ8_newLength_cabcc 4 (some .int), Cond.methodLink RJ8 194 Lib.Math.max.name, Cond.constant RJ8 200 (2147483639), Cond.methodLink RJ8 201 yJ8_hugeLength_7cf53, Cond.static yJ8_hugeLength_7cf53, Cond.code yJ8_hugeLength_7cf53 cJ8_hugeLength_7cf53 3 (some .int), Cond.methodLink RJx4a65c 66 yJ7_copyOf_1904c, Cond.static yJ7_copyOf_1904c, Cond.initialized RJ7, Cond.code yJ7_copyOf_1904c cJ7_copyOf_1904c 2 (some (.array (.object "java/lang/Object"))), Cond.methodLink RJ7 86 ⟨"java/lang/Object", "getClass", "()Ljava/lang/Class;"⟩, Cond.selects "[Ljava/lang/Object;" ⟨"java/lang/Object", "getClass", "()Ljava/lang/Class;"⟩ ⟨"java/lang/Object", "getClass", "()Ljava/lang/Class;"⟩, Cond.instanceMethod ⟨"java/lang/Object", "getClass", "()Ljava/lang/Class;"⟩, Cond.native ⟨"java/lang/Object", "getClass", "()Ljava/lang/Class;"⟩, Cond.methodLink RJ7 300 yJ7_copyOf_6403c, Cond.static yJ7_copyOf_6403c, Cond.code yJ7_copyOf_6403c cJ7_copyOf_6403c 4 (some (.array (.object "java/lang/Object"))), Cond.classLink RJ7 110 "[Ljava/lang/Object;", Cond.classLink RJ7 2 "java/lang/Object", Cond.methodLink RJ7 304 Lib.Math.min.name, Cond.methodLink RJ7 150 arraycopyName]
def wsX3_passTick_r8 : List Cond := [Cond.methodLink RX3 232 yX3_meetDues, Cond.instanceMethod yX3_meetDues, Cond.selects RX3 yX3_meetDues yX3_meetDues, Cond.code yX3_meetDues cX3_meetDues 3 none, Cond.methodLink RX3 303 yX3_failByDue, Cond.instanceMethod yX3_failByDue, Cond.selects RX3 yX3_failByDue yX3_failByDue, Cond.code yX3_failByDue cX3_failByDue 4 none, Cond.methodLink RX3 121 yX3_leaveLine, Cond.instanceMethod yX3_leaveLine, Cond.selects RX3 yX3_leaveLine yX3_leaveLine, Cond.code yX3_leaveLine cX3_leaveLine 3 none, Cond.fieldLink RX3 109 "FrontDoor$Call" "number" "I", Cond.methodLink RX3 223 yJx4a65c_remove_915e3, Cond.instanceMethod yJx4a65c_remove_915e3, Cond.selects RJx4a65c yJx4a65c_remove_915e3 yJx4a65c_remove_915e3, Cond.code yJx4a65c_remove_915e3 cJx4a65c_remove_915e3 4 (some (.object "java/lang/Object")), Cond.methodLink RJx4a65c 144 yJx4a65c_fastRemove_b59b0, Cond.instanceMethod yJx4a65c_fastRemove_b59b0, Cond.selects RJx4a65c yJx4a65c_fastRemove_b59b0 yJx4a65c_fastRemove_b59b0, Cond.code yJx4a65c_fastRemove_b59b0 cJx4a65c_fastRemove_b59b0 4 none, Cond.methodLink RX3 131 yX3_dropEnded, Cond.instanceMethod yX3_dropEnded, Cond.selects RX3 yX3_dropEnded yX3_dropEnded]
def wsX3_passTick_r9 : List Cond := [Cond.code yX3_dropEnded cX3_dropEnded 2 none, Cond.methodLink RX3 114 yX1_hasEnded, Cond.instanceMethod yX1_hasEnded, Cond.selects RX1 yX1_hasEnded yX1_hasEnded, Cond.code yX1_hasEnded cX1_hasEnded 1 (some .boolean), Cond.fieldLink RX1 31 "FrontDoor$Call" "state" "I", Cond.methodLink RX3 235 yX3_tryThoseOut, Cond.instanceMethod yX3_tryThoseOut, Cond.selects RX3 yX3_tryThoseOut yX3_tryThoseOut, Cond.code yX3_tryThoseOut cX3_tryThoseOut 3 none, Cond.fieldLink RX3 306 "FrontDoor$Server" "until" "I", Cond.methodLink RX3 238 yX3_hedgeSlow, Cond.instanceMethod yX3_hedgeSlow, Cond.selects RX3 yX3_hedgeSlow yX3_hedgeSlow, Cond.code yX3_hedgeSlow cX3_hedgeSlow 5 none, Cond.fieldLink RX3 89 "FrontDoor" "hedgeNow" "I", Cond.fieldLink RX3 309 "FrontDoor$Asking" "since" "I", Cond.fieldLink RX3 202 "FrontDoor$Call" "tried" "I", Cond.fieldLink RX3 167 "FrontDoor" "seconds" "I", Cond.methodLink RX3 179 yX3_byFewest, Cond.instanceMethod yX3_byFewest, Cond.selects RX3 yX3_byFewest yX3_byFewest, Cond.code yX3_byFewest cX3_byFewest 7 (some (.object "FrontDoor$Server")), Cond.fieldLink RX3 192 "FrontDoor$Server" "zone" "I"]
def wsX3_passTick_r10 : List Cond := [Cond.fieldLink RX3 80 "FrontDoor$Server" "open" "I", Cond.fieldLink RX3 189 "FrontDoor$Server" "weight" "I", Cond.methodLink RX3 182 yX2_mayBeAsked, Cond.instanceMethod yX2_mayBeAsked, Cond.selects RX2 yX2_mayBeAsked yX2_mayBeAsked, Cond.code yX2_mayBeAsked cX2_mayBeAsked 2 (some .boolean), Cond.fieldLink RX2 9 "FrontDoor$Server" "number" "I", Cond.fieldLink RX2 36 "FrontDoor$Server" "open" "I", Cond.fieldLink RX2 21 "FrontDoor$Server" "room" "I", Cond.methodLink RX3 209 yX2_takeAsking, Cond.instanceMethod yX2_takeAsking, Cond.selects RX2 yX2_takeAsking yX2_takeAsking, Cond.code yX2_takeAsking cX2_takeAsking 4 (some (.object "FrontDoor$Asking")), Cond.fieldLink RX2 51 "FrontDoor$Server" "asked" "I", Cond.fieldLink RX2 54 "FrontDoor$Server" "mute" "I", Cond.fieldLink RX2 24 "FrontDoor$Server" "pace" "I", Cond.fieldLink RX2 27 "FrontDoor$Server" "breaks" "I", Cond.classLink RX2 57 RX0, Cond.instantiable RX0 4, Cond.initialized RX0, Cond.methodLink RX2 59 yX0_init, Cond.instanceMethod yX0_init, Cond.code yX0_init cX0_init 5 none, Cond.methodLink RX0 1 objectInit]
def wsX3_passTick_r11 : List Cond := [Cond.instanceMethod objectInit, Cond.code objectInit ⟨#[0xb1]⟩ 1 none, Cond.fieldLink RX0 7 "FrontDoor$Asking" "server" "LFrontDoor$Server;", Cond.fieldLink RX0 13 "FrontDoor$Asking" "since" "I", Cond.fieldLink RX0 17 "FrontDoor$Asking" "over" "I", Cond.fieldLink RX0 20 "FrontDoor$Asking" "fails" "Z", Cond.methodLink RX3 213 yX1_begin, Cond.instanceMethod yX1_begin, Cond.selects RX1 yX1_begin yX1_begin, Cond.code yX1_begin cX1_begin 2 none, Cond.fieldLink RX1 47 "FrontDoor$Call" "tried" "I", Cond.fieldLink RX1 56 "FrontDoor$Server" "number" "I", Cond.methodLink RX3 241 yX3_askQueued, Cond.instanceMethod yX3_askQueued, Cond.selects RX3 yX3_askQueued yX3_askQueued, Cond.code yX3_askQueued cX3_askQueued 4 none, Cond.methodLink RX3 101 yX3_askByRule, Cond.instanceMethod yX3_askByRule, Cond.selects RX3 yX3_askByRule yX3_askByRule, Cond.code yX3_askByRule cX3_askByRule 3 (some .boolean), Cond.fieldLink RX3 199 "FrontDoor$Call" "key" "I", Cond.fieldLink RX3 29 "FrontDoor" "ruleNow" "I", Cond.methodLink RX3 140 yX3_chosen, Cond.instanceMethod yX3_chosen]
def wsX3_passTick_r12 : List Cond := [Cond.selects RX3 yX3_chosen yX3_chosen, Cond.code yX3_chosen cX3_chosen 4 (some (.object "FrontDoor$Server")), Cond.methodLink RX3 173 yX3_byTurn, Cond.instanceMethod yX3_byTurn, Cond.selects RX3 yX3_byTurn yX3_byTurn, Cond.code yX3_byTurn cX3_byTurn 5 (some (.object "FrontDoor$Server")), Cond.fieldLink RX3 186 "FrontDoor$Server" "credit" "I", Cond.methodLink RX3 176 yX3_byRing, Cond.instanceMethod yX3_byRing, Cond.selects RX3 yX3_byRing yX3_byRing, Cond.code yX3_byRing cX3_byRing 7 (some (.object "FrontDoor$Server")), Cond.constant RX3 195 (65536), Cond.methodLink RX3 196 yX2_wayFrom, Cond.instanceMethod yX2_wayFrom, Cond.selects RX2 yX2_wayFrom yX2_wayFrom, Cond.code yX2_wayFrom cX2_wayFrom 4 (some .int), Cond.constant RX2 40 (65535), Cond.methodLink RX2 41 yX2_placeOfMark, Cond.instanceMethod yX2_placeOfMark, Cond.selects RX2 yX2_placeOfMark yX2_placeOfMark, Cond.code yX2_placeOfMark cX2_placeOfMark 2 (some .int), Cond.constant RX2 39 (40503), Cond.methodLink RX3 205 yX3_settleCredits, Cond.instanceMethod yX3_settleCredits]
def wsX3_passTick_r13 : List Cond := [Cond.selects RX3 yX3_settleCredits yX3_settleCredits, Cond.code yX3_settleCredits cX3_settleCredits 6 none, Cond.methodLink RX3 244 yX3_letDrainedGo, Cond.instanceMethod yX3_letDrainedGo, Cond.selects RX3 yX3_letDrainedGo yX3_letDrainedGo, Cond.code yX3_letDrainedGo cX3_letDrainedGo 3 none]
def wsX3_passTick : List Cond := .code yX3_passTick cX3_passTick 1 none :: ((wsX3_passTick_r1 ++ (wsX3_passTick_r2 ++ (wsX3_passTick_r3 ++ (wsX3_passTick_r4 ++ (wsX3_passTick_r5 ++ (wsX3_passTick_r6 ++ (wsX3_passTick_r7 ++ (wsX3_passTick_r8 ++ (wsX3_passTick_r9 ++ (wsX3_passTick_r10 ++ (wsX3_passTick_r11 ++ (wsX3_passTick_r12 ++ wsX3_passTick_r13)))))))))))) ++ wsX30 ++ wsX10 ++ wsX00 ++ wsJx4a65c0 ++ wsX20)
def wsX3_ticks_r1 : List Cond := [Cond.fieldLink RX3 95 "FrontDoor" "tick" "I", Cond.fieldLink RX3 134 "FrontDoor" "endedSoFar" "I", Cond.methodLink RX3 72 yX3_faultOf, Cond.static yX3_faultOf, Cond.initialized RX3, Cond.code yX3_faultOf cX3_faultOf 3 (some .int), Cond.methodLink RX3 39 yX3_refuse, Cond.instanceMethod yX3_refuse, Cond.selects RX3 yX3_refuse yX3_refuse, Cond.code yX3_refuse cX3_refuse 3 (some .int), Cond.fieldLink RX3 25 "FrontDoor" "refusals" "[I", Cond.methodLink RX3 137 yX3_passTick, Cond.instanceMethod yX3_passTick, Cond.selects RX3 yX3_passTick yX3_passTick, Cond.code yX3_passTick cX3_passTick 1 none, Cond.methodLink RX3 229 yX3_takeWhatIsOver, Cond.instanceMethod yX3_takeWhatIsOver, Cond.selects RX3 yX3_takeWhatIsOver yX3_takeWhatIsOver, Cond.code yX3_takeWhatIsOver cX3_takeWhatIsOver 5 none, Cond.fieldLink RX3 19 "FrontDoor" "live" "Ljava/util/ArrayList;", Cond.classLink RX3 93 "FrontDoor$Call", Cond.fieldLink RX3 247 "FrontDoor$Call" "first" "LFrontDoor$Asking;", Cond.fieldLink RX3 251 "FrontDoor$Call" "second" "LFrontDoor$Asking;", Cond.fieldLink RX3 254 "FrontDoor$Asking" "over" "I"]
def wsX3_ticks_r2 : List Cond := [Cond.fieldLink RX3 118 "FrontDoor$Call" "state" "I", Cond.methodLink RX3 43 yJx4a65c_size_8abf5, Cond.instanceMethod yJx4a65c_size_8abf5, Cond.selects RJx4a65c yJx4a65c_size_8abf5 yJx4a65c_size_8abf5, Cond.initialized RJx4a65c, Cond.code yJx4a65c_size_8abf5 cJx4a65c_size_8abf5 1 (some .int), Cond.fieldLink RJx4a65c 48 "java/util/ArrayList" "size" "I", Cond.methodLink RX3 151 yJx4a65c_get_915e3, Cond.instanceMethod yJx4a65c_get_915e3, Cond.selects RJx4a65c yJx4a65c_get_915e3 yJx4a65c_get_915e3, Cond.code yJx4a65c_get_915e3 cJx4a65c_get_915e3 2 (some (.object "java/lang/Object")), Cond.methodLink RJx4a65c 118 yJ15_checkIndex_7cf53, Cond.static yJ15_checkIndex_7cf53, Cond.initialized RJ15, Cond.code yJ15_checkIndex_7cf53 cJ15_checkIndex_7cf53 2 (some .int), Cond.methodLink RJ15 105 yJ3_checkIndex_8e157, Cond.static yJ3_checkIndex_8e157, Cond.initialized RJ3, Cond.code yJ3_checkIndex_8e157 cJ3_checkIndex_8e157 3 (some .int), Cond.methodLink RJx4a65c 123 yJx4a65c_elementData_915e3, Cond.instanceMethod yJx4a65c_elementData_915e3, Cond.selects RJx4a65c yJx4a65c_elementData_915e3 yJx4a65c_elementData_915e3, Cond.code yJx4a65c_elementData_915e3 cJx4a65c_elementData_915e3 2 (some (.object "java/lang/Object")), Cond.fieldLink RJx4a65c 9 "java/util/ArrayList" "elementData" "[Ljava/lang/Object;"]
def wsX3_ticks_r3 : List Cond := [Cond.methodLink RX3 259 yX3_takeAnswer, Cond.instanceMethod yX3_takeAnswer, Cond.selects RX3 yX3_takeAnswer yX3_takeAnswer, Cond.code yX3_takeAnswer cX3_takeAnswer 3 none, Cond.fieldLink RX3 263 "FrontDoor$Asking" "fails" "Z", Cond.fieldLink RX3 267 "FrontDoor$Asking" "server" "LFrontDoor$Server;", Cond.fieldLink RX3 56 "FrontDoor$Server" "number" "I", Cond.fieldLink RX3 274 "FrontDoor$Call" "answerer" "I", Cond.fieldLink RX3 284 "FrontDoor$Call" "safe" "Z", Cond.fieldLink RX3 287 "FrontDoor$Call" "due" "I", Cond.fieldLink RX3 164 "FrontDoor" "agains" "I", Cond.methodLink RX3 271 yX2_answer, Cond.instanceMethod yX2_answer, Cond.selects RX2 yX2_answer yX2_answer, Cond.initialized RX2, Cond.code yX2_answer cX2_answer 1 none, Cond.fieldLink RX2 62 "FrontDoor$Server" "answers" "I", Cond.fieldLink RX2 65 "FrontDoor$Server" "row" "I", Cond.fieldLink RX2 33 "FrontDoor$Server" "penalty" "I", Cond.fieldLink RX2 30 "FrontDoor$Server" "health" "I", Cond.methodLink RX3 124 yX1_callOffAll, Cond.instanceMethod yX1_callOffAll, Cond.selects RX1 yX1_callOffAll yX1_callOffAll, Cond.initialized RX1]
def wsX3_ticks_r4 : List Cond := [Cond.code yX1_callOffAll cX1_callOffAll 1 none, Cond.fieldLink RX1 44 "FrontDoor$Call" "second" "LFrontDoor$Asking;", Cond.fieldLink RX1 40 "FrontDoor$Call" "first" "LFrontDoor$Asking;", Cond.methodLink RX1 62 yX1_letGo, Cond.instanceMethod yX1_letGo, Cond.selects RX1 yX1_letGo yX1_letGo, Cond.code yX1_letGo cX1_letGo 2 none, Cond.fieldLink RX1 50 "FrontDoor$Asking" "server" "LFrontDoor$Server;", Cond.fieldLink RX1 59 "FrontDoor$Server" "open" "I", Cond.methodLink RX3 127 yX3_end, Cond.instanceMethod yX3_end, Cond.selects RX3 yX3_end yX3_end, Cond.code yX3_end cX3_end 3 none, Cond.fieldLink RX3 226 "FrontDoor$Call" "ended" "I", Cond.methodLink RX3 277 yX1_letGo, Cond.methodLink RX3 280 yX3_failureOf, Cond.instanceMethod yX3_failureOf, Cond.selects RX3 yX3_failureOf yX3_failureOf, Cond.code yX3_failureOf cX3_failureOf 2 none, Cond.fieldLink RX3 293 "FrontDoor$Server" "failures" "I", Cond.fieldLink RX3 83 "FrontDoor$Server" "row" "I", Cond.fieldLink RX3 63 "FrontDoor$Server" "health" "I", Cond.fieldLink RX3 33 "FrontDoor" "limitNow" "I", Cond.methodLink RX3 296 yX3_oneMoreOutIsTooMany]
def wsX3_ticks_r5 : List Cond := [Cond.instanceMethod yX3_oneMoreOutIsTooMany, Cond.selects RX3 yX3_oneMoreOutIsTooMany yX3_oneMoreOutIsTooMany, Cond.code yX3_oneMoreOutIsTooMany cX3_oneMoreOutIsTooMany 5 (some .boolean), Cond.fieldLink RX3 10 "FrontDoor" "servers" "Ljava/util/ArrayList;", Cond.classLink RX3 47 "FrontDoor$Server", Cond.methodLink RX3 299 yX2_goOut, Cond.instanceMethod yX2_goOut, Cond.selects RX2 yX2_goOut yX2_goOut, Cond.code yX2_goOut cX2_goOut 2 none, Cond.fieldLink RX2 68 "FrontDoor$Server" "until" "I", Cond.methodLink RX2 45 Lib.Math.min.name, Cond.static Lib.Math.min.name, Cond.initialized "java/lang/Math", Cond.code Lib.Math.min.name Lib.Math.min.code 2 (some .int), Cond.fieldLink RX2 71 "FrontDoor$Server" "outs" "I", Cond.methodLink RX3 290 yX3_budgetHolds, Cond.instanceMethod yX3_budgetHolds, Cond.selects RX3 yX3_budgetHolds yX3_budgetHolds, Cond.code yX3_budgetHolds cX3_budgetHolds 1 (some .boolean), Cond.fieldLink RX3 36 "FrontDoor" "budgetNow" "I", Cond.fieldLink RX3 16 "FrontDoor" "calls" "Ljava/util/ArrayList;", Cond.methodLink RX3 105 yX3_joinLine, Cond.instanceMethod yX3_joinLine, Cond.selects RX3 yX3_joinLine yX3_joinLine]
def wsX3_ticks_r6 : List Cond := [Cond.code yX3_joinLine cX3_joinLine 3 none, Cond.fieldLink RX3 22 "FrontDoor" "line" "Ljava/util/ArrayList;", Cond.methodLink RX3 217 yX1_goesAheadOf, Cond.instanceMethod yX1_goesAheadOf, Cond.selects RX1 yX1_goesAheadOf yX1_goesAheadOf, Cond.code yX1_goesAheadOf cX1_goesAheadOf 2 (some .boolean), Cond.fieldLink RX1 18 "FrontDoor$Call" "grade" "I", Cond.fieldLink RX1 24 "FrontDoor$Call" "due" "I", Cond.fieldLink RX1 9 "FrontDoor$Call" "number" "I", Cond.methodLink RX3 220 yJx4a65c_add_7a177, Cond.instanceMethod yJx4a65c_add_7a177, Cond.selects RJx4a65c yJx4a65c_add_7a177 yJx4a65c_add_7a177, Cond.code yJx4a65c_add_7a177 cJx4a65c_add_7a177 5 none, Cond.fieldLink RJx4a65c 63 "java/util/ArrayList" "modCount" "I", Cond.sameField "java/util/ArrayList" "java/util/AbstractList" "modCount" "I", Cond.methodLink RJx4a65c 112 arraycopyName, Cond.native arraycopyName, Cond.static arraycopyName, Cond.initialized "java/lang/System", Cond.methodLink RJx4a65c 135 yJx4a65c_rangeCheckForAdd_d00df, Cond.instanceMethod yJx4a65c_rangeCheckForAdd_d00df, Cond.selects RJx4a65c yJx4a65c_rangeCheckForAdd_d00df yJx4a65c_rangeCheckForAdd_d00df, Cond.code yJx4a65c_rangeCheckForAdd_d00df cJx4a65c_rangeCheckForAdd_d00df 2 none, Cond.methodLink RJx4a65c 129 yJx4a65c_grow_d5877]
def wsX3_ticks_r7 : List Cond := [Cond.instanceMethod yJx4a65c_grow_d5877, Cond.selects RJx4a65c yJx4a65c_grow_d5877 yJx4a65c_grow_d5877, Cond.code yJx4a65c_grow_d5877 cJx4a65c_grow_d5877 1 (some (.array (.object "java/lang/Object"))), Cond.methodLink RJx4a65c 69 yJx4a65c_grow_92f84, Cond.instanceMethod yJx4a65c_grow_92f84, Cond.selects RJx4a65c yJx4a65c_grow_92f84 yJx4a65c_grow_92f84, Cond.code yJx4a65c_grow_92f84 cJx4a65c_grow_92f84 4 (some (.array (.object "java/lang/Object"))), Cond.fieldLink RJx4a65c 39 "java/util/ArrayList" "DEFAULTCAPACITY_EMPTY_ELEMENTDATA" "[Ljava/lang/Object;", Cond.methodLink RJx4a65c 79 Lib.Math.max.name, Cond.static Lib.Math.max.name, Cond.code Lib.Math.max.name Lib.Math.max.code 2 (some .int), Cond.classLink RJx4a65c 7 "java/lang/Object", Cond.methodLink RJx4a65c 73 yJ8_newLength_cabcc, Cond.static yJ8_newLength_cabcc, Cond.initialized RJ8, Cond.code yJ8_newLength_cabcc cJ8_newLength_cabcc 4 (some .int), Cond.methodLink RJ8 194 Lib.Math.max.name, Cond.constant RJ8 200 (2147483639), Cond.methodLink RJ8 201 yJ8_hugeLength_7cf53, Cond.static yJ8_hugeLength_7cf53, Cond.code yJ8_hugeLength_7cf53 cJ8_hugeLength_7cf53 3 (some .int), Cond.methodLink RJx4a65c 66 yJ7_copyOf_1904c, Cond.static yJ7_copyOf_1904c, Cond.initialized RJ7]
def wsX3_ticks_r8 : List Cond := [Cond.code yJ7_copyOf_1904c cJ7_copyOf_1904c 2 (some (.array (.object "java/lang/Object"))), Cond.methodLink RJ7 86 ⟨"java/lang/Object", "getClass", "()Ljava/lang/Class;"⟩, Cond.selects "[Ljava/lang/Object;" ⟨"java/lang/Object", "getClass", "()Ljava/lang/Class;"⟩ ⟨"java/lang/Object", "getClass", "()Ljava/lang/Class;"⟩, Cond.instanceMethod ⟨"java/lang/Object", "getClass", "()Ljava/lang/Class;"⟩, Cond.native ⟨"java/lang/Object", "getClass", "()Ljava/lang/Class;"⟩, Cond.methodLink RJ7 300 yJ7_copyOf_6403c, Cond.static yJ7_copyOf_6403c, Cond.code yJ7_copyOf_6403c cJ7_copyOf_6403c 4 (some (.array (.object "java/lang/Object"))), Cond.classLink RJ7 110 "[Ljava/lang/Object;", Cond.classLink RJ7 2 "java/lang/Object", Cond.methodLink RJ7 304 Lib.Math.min.name, Cond.methodLink RJ7 150 arraycopyName, Cond.methodLink RX3 232 yX3_meetDues, Cond.instanceMethod yX3_meetDues, Cond.selects RX3 yX3_meetDues yX3_meetDues, Cond.code yX3_meetDues cX3_meetDues 3 none, Cond.methodLink RX3 303 yX3_failByDue, Cond.instanceMethod yX3_failByDue, Cond.selects RX3 yX3_failByDue yX3_failByDue, Cond.code yX3_failByDue cX3_failByDue 4 none, Cond.methodLink RX3 121 yX3_leaveLine, Cond.instanceMethod yX3_leaveLine, Cond.selects RX3 yX3_leaveLine yX3_leaveLine, Cond.code yX3_leaveLine cX3_leaveLine 3 none]
def wsX3_ticks_r9 : List Cond := [Cond.fieldLink RX3 109 "FrontDoor$Call" "number" "I", Cond.methodLink RX3 223 yJx4a65c_remove_915e3, Cond.instanceMethod yJx4a65c_remove_915e3, Cond.selects RJx4a65c yJx4a65c_remove_915e3 yJx4a65c_remove_915e3, Cond.code yJx4a65c_remove_915e3 cJx4a65c_remove_915e3 4 (some (.object "java/lang/Object")), Cond.methodLink RJx4a65c 144 yJx4a65c_fastRemove_b59b0, Cond.instanceMethod yJx4a65c_fastRemove_b59b0, Cond.selects RJx4a65c yJx4a65c_fastRemove_b59b0 yJx4a65c_fastRemove_b59b0, Cond.code yJx4a65c_fastRemove_b59b0 cJx4a65c_fastRemove_b59b0 4 none, Cond.methodLink RX3 131 yX3_dropEnded, Cond.instanceMethod yX3_dropEnded, Cond.selects RX3 yX3_dropEnded yX3_dropEnded, Cond.code yX3_dropEnded cX3_dropEnded 2 none, Cond.methodLink RX3 114 yX1_hasEnded, Cond.instanceMethod yX1_hasEnded, Cond.selects RX1 yX1_hasEnded yX1_hasEnded, Cond.code yX1_hasEnded cX1_hasEnded 1 (some .boolean), Cond.fieldLink RX1 31 "FrontDoor$Call" "state" "I", Cond.methodLink RX3 235 yX3_tryThoseOut, Cond.instanceMethod yX3_tryThoseOut, Cond.selects RX3 yX3_tryThoseOut yX3_tryThoseOut, Cond.code yX3_tryThoseOut cX3_tryThoseOut 3 none, Cond.fieldLink RX3 306 "FrontDoor$Server" "until" "I", Cond.methodLink RX3 238 yX3_hedgeSlow]
def wsX3_ticks_r10 : List Cond := [Cond.instanceMethod yX3_hedgeSlow, Cond.selects RX3 yX3_hedgeSlow yX3_hedgeSlow, Cond.code yX3_hedgeSlow cX3_hedgeSlow 5 none, Cond.fieldLink RX3 89 "FrontDoor" "hedgeNow" "I", Cond.fieldLink RX3 309 "FrontDoor$Asking" "since" "I", Cond.fieldLink RX3 202 "FrontDoor$Call" "tried" "I", Cond.fieldLink RX3 167 "FrontDoor" "seconds" "I", Cond.methodLink RX3 179 yX3_byFewest, Cond.instanceMethod yX3_byFewest, Cond.selects RX3 yX3_byFewest yX3_byFewest, Cond.code yX3_byFewest cX3_byFewest 7 (some (.object "FrontDoor$Server")), Cond.fieldLink RX3 192 "FrontDoor$Server" "zone" "I", Cond.fieldLink RX3 80 "FrontDoor$Server" "open" "I", Cond.fieldLink RX3 189 "FrontDoor$Server" "weight" "I", Cond.methodLink RX3 182 yX2_mayBeAsked, Cond.instanceMethod yX2_mayBeAsked, Cond.selects RX2 yX2_mayBeAsked yX2_mayBeAsked, Cond.code yX2_mayBeAsked cX2_mayBeAsked 2 (some .boolean), Cond.fieldLink RX2 9 "FrontDoor$Server" "number" "I", Cond.fieldLink RX2 36 "FrontDoor$Server" "open" "I", Cond.fieldLink RX2 21 "FrontDoor$Server" "room" "I", Cond.methodLink RX3 209 yX2_takeAsking, Cond.instanceMethod yX2_takeAsking, Cond.selects RX2 yX2_takeAsking yX2_takeAsking]
def wsX3_ticks_r11 : List Cond := [Cond.code yX2_takeAsking cX2_takeAsking 4 (some (.object "FrontDoor$Asking")), Cond.fieldLink RX2 51 "FrontDoor$Server" "asked" "I", Cond.fieldLink RX2 54 "FrontDoor$Server" "mute" "I", Cond.fieldLink RX2 24 "FrontDoor$Server" "pace" "I", Cond.fieldLink RX2 27 "FrontDoor$Server" "breaks" "I", Cond.classLink RX2 57 RX0, Cond.instantiable RX0 4, Cond.initialized RX0, Cond.methodLink RX2 59 yX0_init, Cond.instanceMethod yX0_init, Cond.code yX0_init cX0_init 5 none, Cond.methodLink RX0 1 objectInit, Cond.instanceMethod objectInit, Cond.code objectInit ⟨#[0xb1]⟩ 1 none, Cond.fieldLink RX0 7 "FrontDoor$Asking" "server" "LFrontDoor$Server;", Cond.fieldLink RX0 13 "FrontDoor$Asking" "since" "I", Cond.fieldLink RX0 17 "FrontDoor$Asking" "over" "I", Cond.fieldLink RX0 20 "FrontDoor$Asking" "fails" "Z", Cond.methodLink RX3 213 yX1_begin, Cond.instanceMethod yX1_begin, Cond.selects RX1 yX1_begin yX1_begin, Cond.code yX1_begin cX1_begin 2 none, Cond.fieldLink RX1 47 "FrontDoor$Call" "tried" "I", Cond.fieldLink RX1 56 "FrontDoor$Server" "number" "I"]
def wsX3_ticks_r12 : List Cond := [Cond.methodLink RX3 241 yX3_askQueued, Cond.instanceMethod yX3_askQueued, Cond.selects RX3 yX3_askQueued yX3_askQueued, Cond.code yX3_askQueued cX3_askQueued 4 none, Cond.methodLink RX3 101 yX3_askByRule, Cond.instanceMethod yX3_askByRule, Cond.selects RX3 yX3_askByRule yX3_askByRule, Cond.code yX3_askByRule cX3_askByRule 3 (some .boolean), Cond.fieldLink RX3 199 "FrontDoor$Call" "key" "I", Cond.fieldLink RX3 29 "FrontDoor" "ruleNow" "I", Cond.methodLink RX3 140 yX3_chosen, Cond.instanceMethod yX3_chosen, Cond.selects RX3 yX3_chosen yX3_chosen, Cond.code yX3_chosen cX3_chosen 4 (some (.object "FrontDoor$Server")), Cond.methodLink RX3 173 yX3_byTurn, Cond.instanceMethod yX3_byTurn, Cond.selects RX3 yX3_byTurn yX3_byTurn, Cond.code yX3_byTurn cX3_byTurn 5 (some (.object "FrontDoor$Server")), Cond.fieldLink RX3 186 "FrontDoor$Server" "credit" "I", Cond.methodLink RX3 176 yX3_byRing, Cond.instanceMethod yX3_byRing, Cond.selects RX3 yX3_byRing yX3_byRing, Cond.code yX3_byRing cX3_byRing 7 (some (.object "FrontDoor$Server")), Cond.constant RX3 195 (65536)]
def wsX3_ticks_r13 : List Cond := [Cond.methodLink RX3 196 yX2_wayFrom, Cond.instanceMethod yX2_wayFrom, Cond.selects RX2 yX2_wayFrom yX2_wayFrom, Cond.code yX2_wayFrom cX2_wayFrom 4 (some .int), Cond.constant RX2 40 (65535), Cond.methodLink RX2 41 yX2_placeOfMark, Cond.instanceMethod yX2_placeOfMark, Cond.selects RX2 yX2_placeOfMark yX2_placeOfMark, Cond.code yX2_placeOfMark cX2_placeOfMark 2 (some .int), Cond.constant RX2 39 (40503), Cond.methodLink RX3 205 yX3_settleCredits, Cond.instanceMethod yX3_settleCredits, Cond.selects RX3 yX3_settleCredits yX3_settleCredits, Cond.code yX3_settleCredits cX3_settleCredits 6 none, Cond.methodLink RX3 244 yX3_letDrainedGo, Cond.instanceMethod yX3_letDrainedGo, Cond.selects RX3 yX3_letDrainedGo yX3_letDrainedGo, Cond.code yX3_letDrainedGo cX3_letDrainedGo 3 none]
def wsX3_ticks : List Cond := .code yX3_ticks cX3_ticks 5 (some .int) :: ((wsX3_ticks_r1 ++ (wsX3_ticks_r2 ++ (wsX3_ticks_r3 ++ (wsX3_ticks_r4 ++ (wsX3_ticks_r5 ++ (wsX3_ticks_r6 ++ (wsX3_ticks_r7 ++ (wsX3_ticks_r8 ++ (wsX3_ticks_r9 ++ (wsX3_ticks_r10 ++ (wsX3_ticks_r11 ++ (wsX3_ticks_r12 ++ wsX3_ticks_r13)))))))))))) ++ wsX30 ++ wsX10 ++ wsX00 ++ wsJx4a65c0 ++ wsX20)
def wsX3_pick_r1 : List Cond := [Cond.constant RX3 92 (65535), Cond.fieldLink RX3 56 "FrontDoor$Server" "number" "I", Cond.methodLink RX3 72 yX3_faultOf, Cond.static yX3_faultOf, Cond.initialized RX3, Cond.code yX3_faultOf cX3_faultOf 3 (some .int), Cond.methodLink RX3 39 yX3_refuse, Cond.instanceMethod yX3_refuse, Cond.selects RX3 yX3_refuse yX3_refuse, Cond.code yX3_refuse cX3_refuse 3 (some .int), Cond.fieldLink RX3 25 "FrontDoor" "refusals" "[I", Cond.methodLink RX3 140 yX3_chosen, Cond.instanceMethod yX3_chosen, Cond.selects RX3 yX3_chosen yX3_chosen, Cond.code yX3_chosen cX3_chosen 4 (some (.object "FrontDoor$Server")), Cond.fieldLink RX3 29 "FrontDoor" "ruleNow" "I", Cond.methodLink RX3 173 yX3_byTurn, Cond.instanceMethod yX3_byTurn, Cond.selects RX3 yX3_byTurn yX3_byTurn, Cond.code yX3_byTurn cX3_byTurn 5 (some (.object "FrontDoor$Server")), Cond.fieldLink RX3 10 "FrontDoor" "servers" "Ljava/util/ArrayList;", Cond.classLink RX3 47 "FrontDoor$Server", Cond.fieldLink RX3 186 "FrontDoor$Server" "credit" "I", Cond.fieldLink RX3 189 "FrontDoor$Server" "weight" "I"]
def wsX3_pick_r2 : List Cond := [Cond.methodLink RX3 43 yJx4a65c_size_8abf5, Cond.instanceMethod yJx4a65c_size_8abf5, Cond.selects RJx4a65c yJx4a65c_size_8abf5 yJx4a65c_size_8abf5, Cond.initialized RJx4a65c, Cond.code yJx4a65c_size_8abf5 cJx4a65c_size_8abf5 1 (some .int), Cond.fieldLink RJx4a65c 48 "java/util/ArrayList" "size" "I", Cond.methodLink RX3 151 yJx4a65c_get_915e3, Cond.instanceMethod yJx4a65c_get_915e3, Cond.selects RJx4a65c yJx4a65c_get_915e3 yJx4a65c_get_915e3, Cond.code yJx4a65c_get_915e3 cJx4a65c_get_915e3 2 (some (.object "java/lang/Object")), Cond.methodLink RJx4a65c 118 yJ15_checkIndex_7cf53, Cond.static yJ15_checkIndex_7cf53, Cond.initialized RJ15, Cond.code yJ15_checkIndex_7cf53 cJ15_checkIndex_7cf53 2 (some .int), Cond.methodLink RJ15 105 yJ3_checkIndex_8e157, Cond.static yJ3_checkIndex_8e157, Cond.initialized RJ3, Cond.code yJ3_checkIndex_8e157 cJ3_checkIndex_8e157 3 (some .int), Cond.methodLink RJx4a65c 123 yJx4a65c_elementData_915e3, Cond.instanceMethod yJx4a65c_elementData_915e3, Cond.selects RJx4a65c yJx4a65c_elementData_915e3 yJx4a65c_elementData_915e3, Cond.code yJx4a65c_elementData_915e3 cJx4a65c_elementData_915e3 2 (some (.object "java/lang/Object")), Cond.fieldLink RJx4a65c 9 "java/util/ArrayList" "elementData" "[Ljava/lang/Object;", Cond.methodLink RX3 182 yX2_mayBeAsked]
def wsX3_pick_r3 : List Cond := [Cond.instanceMethod yX2_mayBeAsked, Cond.selects RX2 yX2_mayBeAsked yX2_mayBeAsked, Cond.initialized RX2, Cond.code yX2_mayBeAsked cX2_mayBeAsked 2 (some .boolean), Cond.fieldLink RX2 9 "FrontDoor$Server" "number" "I", Cond.fieldLink RX2 36 "FrontDoor$Server" "open" "I", Cond.fieldLink RX2 21 "FrontDoor$Server" "room" "I", Cond.fieldLink RX2 30 "FrontDoor$Server" "health" "I", Cond.methodLink RX3 176 yX3_byRing, Cond.instanceMethod yX3_byRing, Cond.selects RX3 yX3_byRing yX3_byRing, Cond.code yX3_byRing cX3_byRing 7 (some (.object "FrontDoor$Server")), Cond.constant RX3 195 (65536), Cond.methodLink RX3 196 yX2_wayFrom, Cond.instanceMethod yX2_wayFrom, Cond.selects RX2 yX2_wayFrom yX2_wayFrom, Cond.code yX2_wayFrom cX2_wayFrom 4 (some .int), Cond.constant RX2 40 (65535), Cond.methodLink RX2 45 Lib.Math.min.name, Cond.static Lib.Math.min.name, Cond.initialized "java/lang/Math", Cond.code Lib.Math.min.name Lib.Math.min.code 2 (some .int), Cond.methodLink RX2 41 yX2_placeOfMark, Cond.instanceMethod yX2_placeOfMark]
def wsX3_pick_r4 : List Cond := [Cond.selects RX2 yX2_placeOfMark yX2_placeOfMark, Cond.code yX2_placeOfMark cX2_placeOfMark 2 (some .int), Cond.constant RX2 39 (40503), Cond.methodLink RX3 179 yX3_byFewest, Cond.instanceMethod yX3_byFewest, Cond.selects RX3 yX3_byFewest yX3_byFewest, Cond.code yX3_byFewest cX3_byFewest 7 (some (.object "FrontDoor$Server")), Cond.fieldLink RX3 192 "FrontDoor$Server" "zone" "I", Cond.fieldLink RX3 80 "FrontDoor$Server" "open" "I"]
def wsX3_pick : List Cond := .code yX3_pick cX3_pick 4 (some .int) :: ((wsX3_pick_r1 ++ (wsX3_pick_r2 ++ (wsX3_pick_r3 ++ wsX3_pick_r4))) ++ wsX20 ++ wsX30 ++ wsJx4a65c0)
def wsX3_callOf_r1 : List Cond := [Cond.methodLink RX3 110 yX3_callAt, Cond.instanceMethod yX3_callAt, Cond.selects RX3 yX3_callAt yX3_callAt, Cond.initialized RX3, Cond.code yX3_callAt cX3_callAt 2 (some (.object "FrontDoor$Call")), Cond.fieldLink RX3 16 "FrontDoor" "calls" "Ljava/util/ArrayList;", Cond.classLink RX3 93 "FrontDoor$Call", Cond.methodLink RX3 43 yJx4a65c_size_8abf5, Cond.instanceMethod yJx4a65c_size_8abf5, Cond.selects RJx4a65c yJx4a65c_size_8abf5 yJx4a65c_size_8abf5, Cond.initialized RJx4a65c, Cond.code yJx4a65c_size_8abf5 cJx4a65c_size_8abf5 1 (some .int), Cond.fieldLink RJx4a65c 48 "java/util/ArrayList" "size" "I", Cond.methodLink RX3 151 yJx4a65c_get_915e3, Cond.instanceMethod yJx4a65c_get_915e3, Cond.selects RJx4a65c yJx4a65c_get_915e3 yJx4a65c_get_915e3, Cond.code yJx4a65c_get_915e3 cJx4a65c_get_915e3 2 (some (.object "java/lang/Object")), Cond.methodLink RJx4a65c 118 yJ15_checkIndex_7cf53, Cond.static yJ15_checkIndex_7cf53, Cond.initialized RJ15, Cond.code yJ15_checkIndex_7cf53 cJ15_checkIndex_7cf53 2 (some .int), Cond.methodLink RJ15 105 yJ3_checkIndex_8e157, Cond.static yJ3_checkIndex_8e157, Cond.initialized RJ3]
def wsX3_callOf_r2 : List Cond := [Cond.code yJ3_checkIndex_8e157 cJ3_checkIndex_8e157 3 (some .int), Cond.methodLink RJx4a65c 123 yJx4a65c_elementData_915e3, Cond.instanceMethod yJx4a65c_elementData_915e3, Cond.selects RJx4a65c yJx4a65c_elementData_915e3 yJx4a65c_elementData_915e3, Cond.code yJx4a65c_elementData_915e3 cJx4a65c_elementData_915e3 2 (some (.object "java/lang/Object")), Cond.fieldLink RJx4a65c 9 "java/util/ArrayList" "elementData" "[Ljava/lang/Object;", Cond.methodLink RX3 39 yX3_refuse, Cond.instanceMethod yX3_refuse, Cond.selects RX3 yX3_refuse yX3_refuse, Cond.code yX3_refuse cX3_refuse 3 (some .int), Cond.fieldLink RX3 25 "FrontDoor" "refusals" "[I", Cond.methodLink RX3 144 yX1_tell, Cond.instanceMethod yX1_tell, Cond.selects RX1 yX1_tell yX1_tell, Cond.initialized RX1, Cond.code yX1_tell cX1_tell 2 (some .int), Cond.fieldLink RX1 31 "FrontDoor$Call" "state" "I", Cond.fieldLink RX1 15 "FrontDoor$Call" "key" "I", Cond.fieldLink RX1 18 "FrontDoor$Call" "grade" "I", Cond.fieldLink RX1 24 "FrontDoor$Call" "due" "I", Cond.fieldLink RX1 27 "FrontDoor$Call" "safe" "Z", Cond.fieldLink RX1 40 "FrontDoor$Call" "first" "LFrontDoor$Asking;", Cond.fieldLink RX1 44 "FrontDoor$Call" "second" "LFrontDoor$Asking;", Cond.fieldLink RX1 37 "FrontDoor$Call" "answerer" "I"]
def wsX3_callOf_r3 : List Cond := [Cond.fieldLink RX1 50 "FrontDoor$Asking" "server" "LFrontDoor$Server;", Cond.fieldLink RX1 56 "FrontDoor$Server" "number" "I", Cond.fieldLink RX1 47 "FrontDoor$Call" "tried" "I", Cond.fieldLink RX1 21 "FrontDoor$Call" "came" "I", Cond.fieldLink RX1 34 "FrontDoor$Call" "ended" "I"]
def wsX3_callOf : List Cond := .code yX3_callOf cX3_callOf 4 (some .int) :: ((wsX3_callOf_r1 ++ (wsX3_callOf_r2 ++ wsX3_callOf_r3)) ++ wsX30 ++ wsJx4a65c0 ++ wsX10 ++ wsX00 ++ wsX20)
def wsX3_serverOf_r1 : List Cond := [Cond.methodLink RX3 59 yX3_serverAt, Cond.instanceMethod yX3_serverAt, Cond.selects RX3 yX3_serverAt yX3_serverAt, Cond.initialized RX3, Cond.code yX3_serverAt cX3_serverAt 2 (some (.object "FrontDoor$Server")), Cond.fieldLink RX3 10 "FrontDoor" "servers" "Ljava/util/ArrayList;", Cond.classLink RX3 47 "FrontDoor$Server", Cond.methodLink RX3 43 yJx4a65c_size_8abf5, Cond.instanceMethod yJx4a65c_size_8abf5, Cond.selects RJx4a65c yJx4a65c_size_8abf5 yJx4a65c_size_8abf5, Cond.initialized RJx4a65c, Cond.code yJx4a65c_size_8abf5 cJx4a65c_size_8abf5 1 (some .int), Cond.fieldLink RJx4a65c 48 "java/util/ArrayList" "size" "I", Cond.methodLink RX3 151 yJx4a65c_get_915e3, Cond.instanceMethod yJx4a65c_get_915e3, Cond.selects RJx4a65c yJx4a65c_get_915e3 yJx4a65c_get_915e3, Cond.code yJx4a65c_get_915e3 cJx4a65c_get_915e3 2 (some (.object "java/lang/Object")), Cond.methodLink RJx4a65c 118 yJ15_checkIndex_7cf53, Cond.static yJ15_checkIndex_7cf53, Cond.initialized RJ15, Cond.code yJ15_checkIndex_7cf53 cJ15_checkIndex_7cf53 2 (some .int), Cond.methodLink RJ15 105 yJ3_checkIndex_8e157, Cond.static yJ3_checkIndex_8e157, Cond.initialized RJ3]
def wsX3_serverOf_r2 : List Cond := [Cond.code yJ3_checkIndex_8e157 cJ3_checkIndex_8e157 3 (some .int), Cond.methodLink RJx4a65c 123 yJx4a65c_elementData_915e3, Cond.instanceMethod yJx4a65c_elementData_915e3, Cond.selects RJx4a65c yJx4a65c_elementData_915e3 yJx4a65c_elementData_915e3, Cond.code yJx4a65c_elementData_915e3 cJx4a65c_elementData_915e3 2 (some (.object "java/lang/Object")), Cond.fieldLink RJx4a65c 9 "java/util/ArrayList" "elementData" "[Ljava/lang/Object;", Cond.methodLink RX3 39 yX3_refuse, Cond.instanceMethod yX3_refuse, Cond.selects RX3 yX3_refuse yX3_refuse, Cond.code yX3_refuse cX3_refuse 3 (some .int), Cond.fieldLink RX3 25 "FrontDoor" "refusals" "[I", Cond.methodLink RX3 147 yX2_tell, Cond.instanceMethod yX2_tell, Cond.selects RX2 yX2_tell yX2_tell, Cond.initialized RX2, Cond.code yX2_tell cX2_tell 2 (some .int), Cond.fieldLink RX2 30 "FrontDoor$Server" "health" "I", Cond.fieldLink RX2 36 "FrontDoor$Server" "open" "I", Cond.fieldLink RX2 51 "FrontDoor$Server" "asked" "I", Cond.fieldLink RX2 62 "FrontDoor$Server" "answers" "I", Cond.fieldLink RX2 77 "FrontDoor$Server" "failures" "I", Cond.fieldLink RX2 65 "FrontDoor$Server" "row" "I", Cond.fieldLink RX2 68 "FrontDoor$Server" "until" "I", Cond.fieldLink RX2 33 "FrontDoor$Server" "penalty" "I"]
def wsX3_serverOf_r3 : List Cond := [Cond.fieldLink RX2 71 "FrontDoor$Server" "outs" "I", Cond.fieldLink RX2 80 "FrontDoor$Server" "credit" "I", Cond.constant RX2 83 (1000000000), Cond.fieldLink RX2 15 "FrontDoor$Server" "weight" "I", Cond.fieldLink RX2 18 "FrontDoor$Server" "zone" "I", Cond.fieldLink RX2 21 "FrontDoor$Server" "room" "I", Cond.fieldLink RX2 24 "FrontDoor$Server" "pace" "I", Cond.fieldLink RX2 27 "FrontDoor$Server" "breaks" "I", Cond.fieldLink RX2 54 "FrontDoor$Server" "mute" "I"]
def wsX3_serverOf : List Cond := .code yX3_serverOf cX3_serverOf 4 (some .int) :: ((wsX3_serverOf_r1 ++ (wsX3_serverOf_r2 ++ wsX3_serverOf_r3)) ++ wsX30 ++ wsJx4a65c0 ++ wsX20)
def wsX3_mark_r1 : List Cond := [Cond.methodLink RX3 59 yX3_serverAt, Cond.instanceMethod yX3_serverAt, Cond.selects RX3 yX3_serverAt yX3_serverAt, Cond.initialized RX3, Cond.code yX3_serverAt cX3_serverAt 2 (some (.object "FrontDoor$Server")), Cond.fieldLink RX3 10 "FrontDoor" "servers" "Ljava/util/ArrayList;", Cond.classLink RX3 47 "FrontDoor$Server", Cond.methodLink RX3 43 yJx4a65c_size_8abf5, Cond.instanceMethod yJx4a65c_size_8abf5, Cond.selects RJx4a65c yJx4a65c_size_8abf5 yJx4a65c_size_8abf5, Cond.initialized RJx4a65c, Cond.code yJx4a65c_size_8abf5 cJx4a65c_size_8abf5 1 (some .int), Cond.fieldLink RJx4a65c 48 "java/util/ArrayList" "size" "I", Cond.methodLink RX3 151 yJx4a65c_get_915e3, Cond.instanceMethod yJx4a65c_get_915e3, Cond.selects RJx4a65c yJx4a65c_get_915e3 yJx4a65c_get_915e3, Cond.code yJx4a65c_get_915e3 cJx4a65c_get_915e3 2 (some (.object "java/lang/Object")), Cond.methodLink RJx4a65c 118 yJ15_checkIndex_7cf53, Cond.static yJ15_checkIndex_7cf53, Cond.initialized RJ15, Cond.code yJ15_checkIndex_7cf53 cJ15_checkIndex_7cf53 2 (some .int), Cond.methodLink RJ15 105 yJ3_checkIndex_8e157, Cond.static yJ3_checkIndex_8e157, Cond.initialized RJ3]
def wsX3_mark_r2 : List Cond := [Cond.code yJ3_checkIndex_8e157 cJ3_checkIndex_8e157 3 (some .int), Cond.methodLink RJx4a65c 123 yJx4a65c_elementData_915e3, Cond.instanceMethod yJx4a65c_elementData_915e3, Cond.selects RJx4a65c yJx4a65c_elementData_915e3 yJx4a65c_elementData_915e3, Cond.code yJx4a65c_elementData_915e3 cJx4a65c_elementData_915e3 2 (some (.object "java/lang/Object")), Cond.fieldLink RJx4a65c 9 "java/util/ArrayList" "elementData" "[Ljava/lang/Object;", Cond.methodLink RX3 39 yX3_refuse, Cond.instanceMethod yX3_refuse, Cond.selects RX3 yX3_refuse yX3_refuse, Cond.code yX3_refuse cX3_refuse 3 (some .int), Cond.fieldLink RX3 25 "FrontDoor" "refusals" "[I", Cond.methodLink RX3 148 yX2_placeOfMark, Cond.instanceMethod yX2_placeOfMark, Cond.selects RX2 yX2_placeOfMark yX2_placeOfMark, Cond.initialized RX2, Cond.code yX2_placeOfMark cX2_placeOfMark 2 (some .int), Cond.constant RX2 39 (40503), Cond.fieldLink RX2 9 "FrontDoor$Server" "number" "I", Cond.constant RX2 40 (65535)]
def wsX3_mark : List Cond := .code yX3_mark cX3_mark 4 (some .int) :: ((wsX3_mark_r1 ++ wsX3_mark_r2) ++ wsX30 ++ wsJx4a65c0 ++ wsX20)
def wsX3_queue_r1 : List Cond := [Cond.fieldLink RX3 22 "FrontDoor" "line" "Ljava/util/ArrayList;", Cond.classLink RX3 93 "FrontDoor$Call", Cond.fieldLink RX3 109 "FrontDoor$Call" "number" "I", Cond.methodLink RX3 43 yJx4a65c_size_8abf5, Cond.instanceMethod yJx4a65c_size_8abf5, Cond.selects RJx4a65c yJx4a65c_size_8abf5 yJx4a65c_size_8abf5, Cond.initialized RJx4a65c, Cond.code yJx4a65c_size_8abf5 cJx4a65c_size_8abf5 1 (some .int), Cond.fieldLink RJx4a65c 48 "java/util/ArrayList" "size" "I", Cond.methodLink RX3 151 yJx4a65c_get_915e3, Cond.instanceMethod yJx4a65c_get_915e3, Cond.selects RJx4a65c yJx4a65c_get_915e3 yJx4a65c_get_915e3, Cond.code yJx4a65c_get_915e3 cJx4a65c_get_915e3 2 (some (.object "java/lang/Object")), Cond.methodLink RJx4a65c 118 yJ15_checkIndex_7cf53, Cond.static yJ15_checkIndex_7cf53, Cond.initialized RJ15, Cond.code yJ15_checkIndex_7cf53 cJ15_checkIndex_7cf53 2 (some .int), Cond.methodLink RJ15 105 yJ3_checkIndex_8e157, Cond.static yJ3_checkIndex_8e157, Cond.initialized RJ3, Cond.code yJ3_checkIndex_8e157 cJ3_checkIndex_8e157 3 (some .int), Cond.methodLink RJx4a65c 123 yJx4a65c_elementData_915e3, Cond.instanceMethod yJx4a65c_elementData_915e3, Cond.selects RJx4a65c yJx4a65c_elementData_915e3 yJx4a65c_elementData_915e3]
def wsX3_queue_r2 : List Cond := [Cond.code yJx4a65c_elementData_915e3 cJx4a65c_elementData_915e3 2 (some (.object "java/lang/Object")), Cond.fieldLink RJx4a65c 9 "java/util/ArrayList" "elementData" "[Ljava/lang/Object;"]
def wsX3_queue : List Cond := .code yX3_queue cX3_queue 2 (some .int) :: ((wsX3_queue_r1 ++ wsX3_queue_r2) ++ wsX30 ++ wsX10 ++ wsJx4a65c0)
def wsX3_askingsSoFar_r1 : List Cond := [Cond.fieldLink RX3 10 "FrontDoor" "servers" "Ljava/util/ArrayList;", Cond.classLink RX3 47 "FrontDoor$Server", Cond.fieldLink RX3 158 "FrontDoor$Server" "asked" "I", Cond.methodLink RX3 43 yJx4a65c_size_8abf5, Cond.instanceMethod yJx4a65c_size_8abf5, Cond.selects RJx4a65c yJx4a65c_size_8abf5 yJx4a65c_size_8abf5, Cond.initialized RJx4a65c, Cond.code yJx4a65c_size_8abf5 cJx4a65c_size_8abf5 1 (some .int), Cond.fieldLink RJx4a65c 48 "java/util/ArrayList" "size" "I", Cond.methodLink RX3 151 yJx4a65c_get_915e3, Cond.instanceMethod yJx4a65c_get_915e3, Cond.selects RJx4a65c yJx4a65c_get_915e3 yJx4a65c_get_915e3, Cond.code yJx4a65c_get_915e3 cJx4a65c_get_915e3 2 (some (.object "java/lang/Object")), Cond.methodLink RJx4a65c 118 yJ15_checkIndex_7cf53, Cond.static yJ15_checkIndex_7cf53, Cond.initialized RJ15, Cond.code yJ15_checkIndex_7cf53 cJ15_checkIndex_7cf53 2 (some .int), Cond.methodLink RJ15 105 yJ3_checkIndex_8e157, Cond.static yJ3_checkIndex_8e157, Cond.initialized RJ3, Cond.code yJ3_checkIndex_8e157 cJ3_checkIndex_8e157 3 (some .int), Cond.methodLink RJx4a65c 123 yJx4a65c_elementData_915e3, Cond.instanceMethod yJx4a65c_elementData_915e3, Cond.selects RJx4a65c yJx4a65c_elementData_915e3 yJx4a65c_elementData_915e3]
def wsX3_askingsSoFar_r2 : List Cond := [Cond.code yJx4a65c_elementData_915e3 cJx4a65c_elementData_915e3 2 (some (.object "java/lang/Object")), Cond.fieldLink RJx4a65c 9 "java/util/ArrayList" "elementData" "[Ljava/lang/Object;"]
def wsX3_askingsSoFar : List Cond := .code yX3_askingsSoFar cX3_askingsSoFar 3 (some .int) :: ((wsX3_askingsSoFar_r1 ++ wsX3_askingsSoFar_r2) ++ wsX30 ++ wsX20 ++ wsJx4a65c0)
def wsX3_share_r1 : List Cond := [Cond.fieldLink RX3 158 "FrontDoor$Server" "asked" "I", Cond.methodLink RX3 59 yX3_serverAt, Cond.instanceMethod yX3_serverAt, Cond.selects RX3 yX3_serverAt yX3_serverAt, Cond.initialized RX3, Cond.code yX3_serverAt cX3_serverAt 2 (some (.object "FrontDoor$Server")), Cond.fieldLink RX3 10 "FrontDoor" "servers" "Ljava/util/ArrayList;", Cond.classLink RX3 47 "FrontDoor$Server", Cond.methodLink RX3 43 yJx4a65c_size_8abf5, Cond.instanceMethod yJx4a65c_size_8abf5, Cond.selects RJx4a65c yJx4a65c_size_8abf5 yJx4a65c_size_8abf5, Cond.initialized RJx4a65c, Cond.code yJx4a65c_size_8abf5 cJx4a65c_size_8abf5 1 (some .int), Cond.fieldLink RJx4a65c 48 "java/util/ArrayList" "size" "I", Cond.methodLink RX3 151 yJx4a65c_get_915e3, Cond.instanceMethod yJx4a65c_get_915e3, Cond.selects RJx4a65c yJx4a65c_get_915e3 yJx4a65c_get_915e3, Cond.code yJx4a65c_get_915e3 cJx4a65c_get_915e3 2 (some (.object "java/lang/Object")), Cond.methodLink RJx4a65c 118 yJ15_checkIndex_7cf53, Cond.static yJ15_checkIndex_7cf53, Cond.initialized RJ15, Cond.code yJ15_checkIndex_7cf53 cJ15_checkIndex_7cf53 2 (some .int), Cond.methodLink RJ15 105 yJ3_checkIndex_8e157, Cond.static yJ3_checkIndex_8e157]
def wsX3_share_r2 : List Cond := [Cond.initialized RJ3, Cond.code yJ3_checkIndex_8e157 cJ3_checkIndex_8e157 3 (some .int), Cond.methodLink RJx4a65c 123 yJx4a65c_elementData_915e3, Cond.instanceMethod yJx4a65c_elementData_915e3, Cond.selects RJx4a65c yJx4a65c_elementData_915e3 yJx4a65c_elementData_915e3, Cond.code yJx4a65c_elementData_915e3 cJx4a65c_elementData_915e3 2 (some (.object "java/lang/Object")), Cond.fieldLink RJx4a65c 9 "java/util/ArrayList" "elementData" "[Ljava/lang/Object;", Cond.methodLink RX3 39 yX3_refuse, Cond.instanceMethod yX3_refuse, Cond.selects RX3 yX3_refuse yX3_refuse, Cond.code yX3_refuse cX3_refuse 3 (some .int), Cond.fieldLink RX3 25 "FrontDoor" "refusals" "[I", Cond.methodLink RX3 155 yX3_askingsSoFar, Cond.instanceMethod yX3_askingsSoFar, Cond.selects RX3 yX3_askingsSoFar yX3_askingsSoFar, Cond.code yX3_askingsSoFar cX3_askingsSoFar 3 (some .int)]
def wsX3_share : List Cond := .code yX3_share cX3_share 4 (some .int) :: ((wsX3_share_r1 ++ wsX3_share_r2) ++ wsX20 ++ wsX30 ++ wsJx4a65c0)
def wsX3_callsThatAre_r1 : List Cond := [Cond.fieldLink RX3 16 "FrontDoor" "calls" "Ljava/util/ArrayList;", Cond.classLink RX3 93 "FrontDoor$Call", Cond.fieldLink RX3 118 "FrontDoor$Call" "state" "I", Cond.methodLink RX3 43 yJx4a65c_size_8abf5, Cond.instanceMethod yJx4a65c_size_8abf5, Cond.selects RJx4a65c yJx4a65c_size_8abf5 yJx4a65c_size_8abf5, Cond.initialized RJx4a65c, Cond.code yJx4a65c_size_8abf5 cJx4a65c_size_8abf5 1 (some .int), Cond.fieldLink RJx4a65c 48 "java/util/ArrayList" "size" "I", Cond.methodLink RX3 151 yJx4a65c_get_915e3, Cond.instanceMethod yJx4a65c_get_915e3, Cond.selects RJx4a65c yJx4a65c_get_915e3 yJx4a65c_get_915e3, Cond.code yJx4a65c_get_915e3 cJx4a65c_get_915e3 2 (some (.object "java/lang/Object")), Cond.methodLink RJx4a65c 118 yJ15_checkIndex_7cf53, Cond.static yJ15_checkIndex_7cf53, Cond.initialized RJ15, Cond.code yJ15_checkIndex_7cf53 cJ15_checkIndex_7cf53 2 (some .int), Cond.methodLink RJ15 105 yJ3_checkIndex_8e157, Cond.static yJ3_checkIndex_8e157, Cond.initialized RJ3, Cond.code yJ3_checkIndex_8e157 cJ3_checkIndex_8e157 3 (some .int), Cond.methodLink RJx4a65c 123 yJx4a65c_elementData_915e3, Cond.instanceMethod yJx4a65c_elementData_915e3, Cond.selects RJx4a65c yJx4a65c_elementData_915e3 yJx4a65c_elementData_915e3]
def wsX3_callsThatAre_r2 : List Cond := [Cond.code yJx4a65c_elementData_915e3 cJx4a65c_elementData_915e3 2 (some (.object "java/lang/Object")), Cond.fieldLink RJx4a65c 9 "java/util/ArrayList" "elementData" "[Ljava/lang/Object;"]
def wsX3_callsThatAre : List Cond := .code yX3_callsThatAre cX3_callsThatAre 4 (some .int) :: ((wsX3_callsThatAre_r1 ++ wsX3_callsThatAre_r2) ++ wsX30 ++ wsX10 ++ wsJx4a65c0)
def wsX3_openAskings_r1 : List Cond := [Cond.fieldLink RX3 10 "FrontDoor" "servers" "Ljava/util/ArrayList;", Cond.classLink RX3 47 "FrontDoor$Server", Cond.fieldLink RX3 80 "FrontDoor$Server" "open" "I", Cond.methodLink RX3 43 yJx4a65c_size_8abf5, Cond.instanceMethod yJx4a65c_size_8abf5, Cond.selects RJx4a65c yJx4a65c_size_8abf5 yJx4a65c_size_8abf5, Cond.initialized RJx4a65c, Cond.code yJx4a65c_size_8abf5 cJx4a65c_size_8abf5 1 (some .int), Cond.fieldLink RJx4a65c 48 "java/util/ArrayList" "size" "I", Cond.methodLink RX3 151 yJx4a65c_get_915e3, Cond.instanceMethod yJx4a65c_get_915e3, Cond.selects RJx4a65c yJx4a65c_get_915e3 yJx4a65c_get_915e3, Cond.code yJx4a65c_get_915e3 cJx4a65c_get_915e3 2 (some (.object "java/lang/Object")), Cond.methodLink RJx4a65c 118 yJ15_checkIndex_7cf53, Cond.static yJ15_checkIndex_7cf53, Cond.initialized RJ15, Cond.code yJ15_checkIndex_7cf53 cJ15_checkIndex_7cf53 2 (some .int), Cond.methodLink RJ15 105 yJ3_checkIndex_8e157, Cond.static yJ3_checkIndex_8e157, Cond.initialized RJ3, Cond.code yJ3_checkIndex_8e157 cJ3_checkIndex_8e157 3 (some .int), Cond.methodLink RJx4a65c 123 yJx4a65c_elementData_915e3, Cond.instanceMethod yJx4a65c_elementData_915e3, Cond.selects RJx4a65c yJx4a65c_elementData_915e3 yJx4a65c_elementData_915e3]
def wsX3_openAskings_r2 : List Cond := [Cond.code yJx4a65c_elementData_915e3 cJx4a65c_elementData_915e3 2 (some (.object "java/lang/Object")), Cond.fieldLink RJx4a65c 9 "java/util/ArrayList" "elementData" "[Ljava/lang/Object;"]
def wsX3_openAskings : List Cond := .code yX3_openAskings cX3_openAskings 3 (some .int) :: ((wsX3_openAskings_r1 ++ wsX3_openAskings_r2) ++ wsX30 ++ wsX20 ++ wsJx4a65c0)
def wsX3_count_r1 : List Cond := [Cond.fieldLink RX3 25 "FrontDoor" "refusals" "[I", Cond.fieldLink RX3 95 "FrontDoor" "tick" "I", Cond.fieldLink RX3 10 "FrontDoor" "servers" "Ljava/util/ArrayList;", Cond.fieldLink RX3 16 "FrontDoor" "calls" "Ljava/util/ArrayList;", Cond.fieldLink RX3 164 "FrontDoor" "agains" "I", Cond.fieldLink RX3 167 "FrontDoor" "seconds" "I", Cond.methodLink RX3 161 yX3_callsThatAre, Cond.instanceMethod yX3_callsThatAre, Cond.selects RX3 yX3_callsThatAre yX3_callsThatAre, Cond.initialized RX3, Cond.code yX3_callsThatAre cX3_callsThatAre 4 (some .int), Cond.classLink RX3 93 "FrontDoor$Call", Cond.fieldLink RX3 118 "FrontDoor$Call" "state" "I", Cond.methodLink RX3 43 yJx4a65c_size_8abf5, Cond.instanceMethod yJx4a65c_size_8abf5, Cond.selects RJx4a65c yJx4a65c_size_8abf5 yJx4a65c_size_8abf5, Cond.initialized RJx4a65c, Cond.code yJx4a65c_size_8abf5 cJx4a65c_size_8abf5 1 (some .int), Cond.fieldLink RJx4a65c 48 "java/util/ArrayList" "size" "I", Cond.methodLink RX3 151 yJx4a65c_get_915e3, Cond.instanceMethod yJx4a65c_get_915e3, Cond.selects RJx4a65c yJx4a65c_get_915e3 yJx4a65c_get_915e3, Cond.code yJx4a65c_get_915e3 cJx4a65c_get_915e3 2 (some (.object "java/lang/Object")), Cond.methodLink RJx4a65c 118 yJ15_checkIndex_7cf53]
def wsX3_count_r2 : List Cond := [Cond.static yJ15_checkIndex_7cf53, Cond.initialized RJ15, Cond.code yJ15_checkIndex_7cf53 cJ15_checkIndex_7cf53 2 (some .int), Cond.methodLink RJ15 105 yJ3_checkIndex_8e157, Cond.static yJ3_checkIndex_8e157, Cond.initialized RJ3, Cond.code yJ3_checkIndex_8e157 cJ3_checkIndex_8e157 3 (some .int), Cond.methodLink RJx4a65c 123 yJx4a65c_elementData_915e3, Cond.instanceMethod yJx4a65c_elementData_915e3, Cond.selects RJx4a65c yJx4a65c_elementData_915e3 yJx4a65c_elementData_915e3, Cond.code yJx4a65c_elementData_915e3 cJx4a65c_elementData_915e3 2 (some (.object "java/lang/Object")), Cond.fieldLink RJx4a65c 9 "java/util/ArrayList" "elementData" "[Ljava/lang/Object;", Cond.methodLink RX3 155 yX3_askingsSoFar, Cond.instanceMethod yX3_askingsSoFar, Cond.selects RX3 yX3_askingsSoFar yX3_askingsSoFar, Cond.code yX3_askingsSoFar cX3_askingsSoFar 3 (some .int), Cond.classLink RX3 47 "FrontDoor$Server", Cond.fieldLink RX3 158 "FrontDoor$Server" "asked" "I", Cond.methodLink RX3 170 yX3_openAskings, Cond.instanceMethod yX3_openAskings, Cond.selects RX3 yX3_openAskings yX3_openAskings, Cond.code yX3_openAskings cX3_openAskings 3 (some .int), Cond.fieldLink RX3 80 "FrontDoor$Server" "open" "I"]
def wsX3_count : List Cond := .code yX3_count cX3_count 2 (some .int) :: ((wsX3_count_r1 ++ wsX3_count_r2) ++ wsX30 ++ wsX10 ++ wsJx4a65c0 ++ wsX20)
def wsX4_init_r1 : List Cond := [Cond.methodLink RX4 1 objectInit, Cond.instanceMethod objectInit, Cond.code objectInit ⟨#[0xb1]⟩ 1 none, Cond.arrayClass .int, Cond.fieldLink RX4 7 "FrontDoorModel" "refusals" "[I", Cond.fieldLink RX4 13 "FrontDoorModel" "limit" "I", Cond.fieldLink RX4 17 "FrontDoorModel" "budget" "I", Cond.fieldLink RX4 20 "FrontDoorModel" "weight" "[I", Cond.fieldLink RX4 23 "FrontDoorModel" "zone" "[I", Cond.fieldLink RX4 26 "FrontDoorModel" "room" "[I", Cond.fieldLink RX4 29 "FrontDoorModel" "pace" "[I", Cond.fieldLink RX4 32 "FrontDoorModel" "breaks" "[I", Cond.fieldLink RX4 35 "FrontDoorModel" "mute" "[I", Cond.fieldLink RX4 38 "FrontDoorModel" "health" "[I", Cond.fieldLink RX4 41 "FrontDoorModel" "open" "[I", Cond.fieldLink RX4 44 "FrontDoorModel" "asked" "[I", Cond.fieldLink RX4 47 "FrontDoorModel" "answers" "[I", Cond.fieldLink RX4 50 "FrontDoorModel" "failures" "[I", Cond.fieldLink RX4 53 "FrontDoorModel" "row" "[I", Cond.fieldLink RX4 56 "FrontDoorModel" "until" "[I", Cond.fieldLink RX4 59 "FrontDoorModel" "penalty" "[I", Cond.fieldLink RX4 62 "FrontDoorModel" "outs" "[I", Cond.fieldLink RX4 65 "FrontDoorModel" "credit" "[I", Cond.fieldLink RX4 68 "FrontDoorModel" "key" "[I"]
def wsX4_init_r2 : List Cond := [Cond.fieldLink RX4 71 "FrontDoorModel" "grade" "[I", Cond.fieldLink RX4 74 "FrontDoorModel" "due" "[I", Cond.fieldLink RX4 77 "FrontDoorModel" "state" "[I", Cond.fieldLink RX4 80 "FrontDoorModel" "asks" "[I", Cond.fieldLink RX4 83 "FrontDoorModel" "tried" "[I", Cond.fieldLink RX4 86 "FrontDoorModel" "came" "[I", Cond.fieldLink RX4 89 "FrontDoorModel" "ended" "[I", Cond.fieldLink RX4 92 "FrontDoorModel" "by" "[I", Cond.arrayClass .boolean, Cond.fieldLink RX4 95 "FrontDoorModel" "safe" "[Z", Cond.fieldLink RX4 99 "FrontDoorModel" "at" "[I", Cond.fieldLink RX4 102 "FrontDoorModel" "since" "[I", Cond.fieldLink RX4 105 "FrontDoorModel" "over" "[I", Cond.fieldLink RX4 108 "FrontDoorModel" "fails" "[Z", Cond.fieldLink RX4 111 "FrontDoorModel" "queue" "[I"]
def wsX4_init : List Cond := .code yX4_init cX4_init 1 none :: ((wsX4_init_r1 ++ wsX4_init_r2) ++ wsX40)
def wsX4_refuse : List Cond := .code yX4_refuse cX4_refuse 2 (some .int) :: ([.fieldLink RX4 7 "FrontDoorModel" "refusals" "[I"] ++ wsX40)
def wsX4_isIn : List Cond := .code yX4_isIn cX4_isIn 2 (some .boolean) :: ([])
def wsX4_isServer : List Cond := .code yX4_isServer cX4_isServer 2 (some .boolean) :: ([.fieldLink RX4 114 "FrontDoorModel" "servers" "I", .methodLink RX4 117 yX4_isIn, .static yX4_isIn, .initialized RX4, .code yX4_isIn cX4_isIn 2 (some .boolean)] ++ wsX40)
def wsX4_isCall : List Cond := .code yX4_isCall cX4_isCall 2 (some .boolean) :: ([.fieldLink RX4 121 "FrontDoorModel" "calls" "I", .methodLink RX4 117 yX4_isIn, .static yX4_isIn, .initialized RX4, .code yX4_isIn cX4_isIn 2 (some .boolean)] ++ wsX40)
def wsX4_server : List Cond := .code yX4_server cX4_server 7 (some .int) :: ([.fieldLink RX4 114 "FrontDoorModel" "servers" "I", .fieldLink RX4 20 "FrontDoorModel" "weight" "[I", .fieldLink RX4 23 "FrontDoorModel" "zone" "[I", .fieldLink RX4 26 "FrontDoorModel" "room" "[I", .fieldLink RX4 29 "FrontDoorModel" "pace" "[I", .fieldLink RX4 32 "FrontDoorModel" "breaks" "[I", .fieldLink RX4 59 "FrontDoorModel" "penalty" "[I", .methodLink RX4 117 yX4_isIn, .static yX4_isIn, .initialized RX4, .code yX4_isIn cX4_isIn 2 (some .boolean), .methodLink RX4 124 yX4_refuse, .instanceMethod yX4_refuse, .selects RX4 yX4_refuse yX4_refuse, .code yX4_refuse cX4_refuse 2 (some .int), .fieldLink RX4 7 "FrontDoorModel" "refusals" "[I"] ++ wsX40)
def wsX4_serverOf_r1 : List Cond := [Cond.fieldLink RX4 38 "FrontDoorModel" "health" "[I", Cond.fieldLink RX4 41 "FrontDoorModel" "open" "[I", Cond.fieldLink RX4 44 "FrontDoorModel" "asked" "[I", Cond.fieldLink RX4 47 "FrontDoorModel" "answers" "[I", Cond.fieldLink RX4 50 "FrontDoorModel" "failures" "[I", Cond.fieldLink RX4 53 "FrontDoorModel" "row" "[I", Cond.fieldLink RX4 56 "FrontDoorModel" "until" "[I", Cond.fieldLink RX4 59 "FrontDoorModel" "penalty" "[I", Cond.fieldLink RX4 62 "FrontDoorModel" "outs" "[I", Cond.fieldLink RX4 65 "FrontDoorModel" "credit" "[I", Cond.constant RX4 234 (1000000000), Cond.fieldLink RX4 20 "FrontDoorModel" "weight" "[I", Cond.fieldLink RX4 23 "FrontDoorModel" "zone" "[I", Cond.fieldLink RX4 26 "FrontDoorModel" "room" "[I", Cond.fieldLink RX4 29 "FrontDoorModel" "pace" "[I", Cond.fieldLink RX4 32 "FrontDoorModel" "breaks" "[I", Cond.fieldLink RX4 35 "FrontDoorModel" "mute" "[I", Cond.methodLink RX4 128 yX4_isServer, Cond.instanceMethod yX4_isServer, Cond.selects RX4 yX4_isServer yX4_isServer, Cond.initialized RX4, Cond.code yX4_isServer cX4_isServer 2 (some .boolean), Cond.fieldLink RX4 114 "FrontDoorModel" "servers" "I", Cond.methodLink RX4 117 yX4_isIn]
def wsX4_serverOf_r2 : List Cond := [Cond.static yX4_isIn, Cond.code yX4_isIn cX4_isIn 2 (some .boolean), Cond.methodLink RX4 124 yX4_refuse, Cond.instanceMethod yX4_refuse, Cond.selects RX4 yX4_refuse yX4_refuse, Cond.code yX4_refuse cX4_refuse 2 (some .int), Cond.fieldLink RX4 7 "FrontDoorModel" "refusals" "[I"]
def wsX4_serverOf : List Cond := .code yX4_serverOf cX4_serverOf 3 (some .int) :: ((wsX4_serverOf_r1 ++ wsX4_serverOf_r2) ++ wsX40)
def wsX4_set_r1 : List Cond := [Cond.fieldLink RX4 38 "FrontDoorModel" "health" "[I", Cond.fieldLink RX4 20 "FrontDoorModel" "weight" "[I", Cond.fieldLink RX4 26 "FrontDoorModel" "room" "[I", Cond.fieldLink RX4 29 "FrontDoorModel" "pace" "[I", Cond.fieldLink RX4 32 "FrontDoorModel" "breaks" "[I", Cond.fieldLink RX4 35 "FrontDoorModel" "mute" "[I", Cond.methodLink RX4 128 yX4_isServer, Cond.instanceMethod yX4_isServer, Cond.selects RX4 yX4_isServer yX4_isServer, Cond.initialized RX4, Cond.code yX4_isServer cX4_isServer 2 (some .boolean), Cond.fieldLink RX4 114 "FrontDoorModel" "servers" "I", Cond.methodLink RX4 117 yX4_isIn, Cond.static yX4_isIn, Cond.code yX4_isIn cX4_isIn 2 (some .boolean), Cond.methodLink RX4 124 yX4_refuse, Cond.instanceMethod yX4_refuse, Cond.selects RX4 yX4_refuse yX4_refuse, Cond.code yX4_refuse cX4_refuse 2 (some .int), Cond.fieldLink RX4 7 "FrontDoorModel" "refusals" "[I", Cond.methodLink RX4 132 yX4_serverOf, Cond.instanceMethod yX4_serverOf, Cond.selects RX4 yX4_serverOf yX4_serverOf, Cond.code yX4_serverOf cX4_serverOf 3 (some .int)]
def wsX4_set_r2 : List Cond := [Cond.fieldLink RX4 41 "FrontDoorModel" "open" "[I", Cond.fieldLink RX4 44 "FrontDoorModel" "asked" "[I", Cond.fieldLink RX4 47 "FrontDoorModel" "answers" "[I", Cond.fieldLink RX4 50 "FrontDoorModel" "failures" "[I", Cond.fieldLink RX4 53 "FrontDoorModel" "row" "[I", Cond.fieldLink RX4 56 "FrontDoorModel" "until" "[I", Cond.fieldLink RX4 59 "FrontDoorModel" "penalty" "[I", Cond.fieldLink RX4 62 "FrontDoorModel" "outs" "[I", Cond.fieldLink RX4 65 "FrontDoorModel" "credit" "[I", Cond.constant RX4 234 (1000000000), Cond.fieldLink RX4 23 "FrontDoorModel" "zone" "[I"]
def wsX4_set : List Cond := .code yX4_set cX4_set 5 (some .int) :: ((wsX4_set_r1 ++ wsX4_set_r2) ++ wsX40)
def wsX4_drain : List Cond := .code yX4_drain cX4_drain 2 (some .int) :: ([.fieldLink RX4 38 "FrontDoorModel" "health" "[I", .fieldLink RX4 41 "FrontDoorModel" "open" "[I", .methodLink RX4 128 yX4_isServer, .instanceMethod yX4_isServer, .selects RX4 yX4_isServer yX4_isServer, .initialized RX4, .code yX4_isServer cX4_isServer 2 (some .boolean), .fieldLink RX4 114 "FrontDoorModel" "servers" "I", .methodLink RX4 117 yX4_isIn, .static yX4_isIn, .code yX4_isIn cX4_isIn 2 (some .boolean), .methodLink RX4 124 yX4_refuse, .instanceMethod yX4_refuse, .selects RX4 yX4_refuse yX4_refuse, .code yX4_refuse cX4_refuse 2 (some .int), .fieldLink RX4 7 "FrontDoorModel" "refusals" "[I"] ++ wsX40)
def wsX4_back : List Cond := .code yX4_back cX4_back 2 (some .int) :: ([.fieldLink RX4 38 "FrontDoorModel" "health" "[I", .fieldLink RX4 53 "FrontDoorModel" "row" "[I", .fieldLink RX4 59 "FrontDoorModel" "penalty" "[I", .methodLink RX4 128 yX4_isServer, .instanceMethod yX4_isServer, .selects RX4 yX4_isServer yX4_isServer, .initialized RX4, .code yX4_isServer cX4_isServer 2 (some .boolean), .fieldLink RX4 114 "FrontDoorModel" "servers" "I", .methodLink RX4 117 yX4_isIn, .static yX4_isIn, .code yX4_isIn cX4_isIn 2 (some .boolean), .methodLink RX4 124 yX4_refuse, .instanceMethod yX4_refuse, .selects RX4 yX4_refuse yX4_refuse, .code yX4_refuse cX4_refuse 2 (some .int), .fieldLink RX4 7 "FrontDoorModel" "refusals" "[I"] ++ wsX40)
def wsX4_rule : List Cond := .code yX4_rule cX4_rule 3 (some .int) :: ([.fieldLink RX4 136 "FrontDoorModel" "rule" "I", .methodLink RX4 117 yX4_isIn, .static yX4_isIn, .initialized RX4, .code yX4_isIn cX4_isIn 2 (some .boolean), .methodLink RX4 124 yX4_refuse, .instanceMethod yX4_refuse, .selects RX4 yX4_refuse yX4_refuse, .code yX4_refuse cX4_refuse 2 (some .int), .fieldLink RX4 7 "FrontDoorModel" "refusals" "[I"] ++ wsX40)
def wsX4_limit : List Cond := .code yX4_limit cX4_limit 3 (some .int) :: ([.fieldLink RX4 13 "FrontDoorModel" "limit" "I", .methodLink RX4 124 yX4_refuse, .instanceMethod yX4_refuse, .selects RX4 yX4_refuse yX4_refuse, .initialized RX4, .code yX4_refuse cX4_refuse 2 (some .int), .fieldLink RX4 7 "FrontDoorModel" "refusals" "[I"] ++ wsX40)
def wsX4_budget : List Cond := .code yX4_budget cX4_budget 3 (some .int) :: ([.fieldLink RX4 17 "FrontDoorModel" "budget" "I", .methodLink RX4 124 yX4_refuse, .instanceMethod yX4_refuse, .selects RX4 yX4_refuse yX4_refuse, .initialized RX4, .code yX4_refuse cX4_refuse 2 (some .int), .fieldLink RX4 7 "FrontDoorModel" "refusals" "[I"] ++ wsX40)
def wsX4_hedge : List Cond := .code yX4_hedge cX4_hedge 3 (some .int) :: ([.fieldLink RX4 139 "FrontDoorModel" "hedge" "I", .methodLink RX4 124 yX4_refuse, .instanceMethod yX4_refuse, .selects RX4 yX4_refuse yX4_refuse, .initialized RX4, .code yX4_refuse cX4_refuse 2 (some .int), .fieldLink RX4 7 "FrontDoorModel" "refusals" "[I"] ++ wsX40)
def wsX4_mays : List Cond := .code yX4_mays cX4_mays 4 (some .int) :: ([.fieldLink RX4 114 "FrontDoorModel" "servers" "I", .fieldLink RX4 41 "FrontDoorModel" "open" "[I", .fieldLink RX4 26 "FrontDoorModel" "room" "[I", .fieldLink RX4 38 "FrontDoorModel" "health" "[I"] ++ wsX40)
def wsX4_fewest : List Cond := .code yX4_fewest cX4_fewest 4 (some .int) :: ([.fieldLink RX4 114 "FrontDoorModel" "servers" "I", .fieldLink RX4 41 "FrontDoorModel" "open" "[I", .fieldLink RX4 20 "FrontDoorModel" "weight" "[I"] ++ wsX40)
def wsX4_markOf : List Cond := .code yX4_markOf cX4_markOf 2 (some .int) :: ([.constant RX4 142 (40503), .constant RX4 143 (65536)])
def wsX4_onRing : List Cond := .code yX4_onRing cX4_onRing 8 (some .int) :: ([.constant RX4 143 (65536), .fieldLink RX4 114 "FrontDoorModel" "servers" "I", .methodLink RX4 144 yX4_markOf, .static yX4_markOf, .initialized RX4, .code yX4_markOf cX4_markOf 2 (some .int), .constant RX4 142 (40503)] ++ wsX40)
def wsX4_near : List Cond := .code yX4_near cX4_near 5 (some .int) :: ([.fieldLink RX4 114 "FrontDoorModel" "servers" "I", .fieldLink RX4 23 "FrontDoorModel" "zone" "[I", .methodLink RX4 147 yX4_fewest, .instanceMethod yX4_fewest, .selects RX4 yX4_fewest yX4_fewest, .initialized RX4, .code yX4_fewest cX4_fewest 4 (some .int), .fieldLink RX4 41 "FrontDoorModel" "open" "[I", .fieldLink RX4 20 "FrontDoorModel" "weight" "[I"] ++ wsX40)
def wsX4_byTurns : List Cond := .code yX4_byTurns cX4_byTurns 6 (some .int) :: ([.fieldLink RX4 114 "FrontDoorModel" "servers" "I", .fieldLink RX4 20 "FrontDoorModel" "weight" "[I", .fieldLink RX4 65 "FrontDoorModel" "credit" "[I"] ++ wsX40)
def wsX4_picked_r1 : List Cond := [Cond.fieldLink RX4 136 "FrontDoorModel" "rule" "I", Cond.methodLink RX4 150 yX4_byTurns, Cond.instanceMethod yX4_byTurns, Cond.selects RX4 yX4_byTurns yX4_byTurns, Cond.initialized RX4, Cond.code yX4_byTurns cX4_byTurns 6 (some .int), Cond.fieldLink RX4 114 "FrontDoorModel" "servers" "I", Cond.fieldLink RX4 20 "FrontDoorModel" "weight" "[I", Cond.fieldLink RX4 65 "FrontDoorModel" "credit" "[I", Cond.methodLink RX4 147 yX4_fewest, Cond.instanceMethod yX4_fewest, Cond.selects RX4 yX4_fewest yX4_fewest, Cond.code yX4_fewest cX4_fewest 4 (some .int), Cond.fieldLink RX4 41 "FrontDoorModel" "open" "[I", Cond.methodLink RX4 154 yX4_onRing, Cond.instanceMethod yX4_onRing, Cond.selects RX4 yX4_onRing yX4_onRing, Cond.code yX4_onRing cX4_onRing 8 (some .int), Cond.constant RX4 143 (65536), Cond.methodLink RX4 144 yX4_markOf, Cond.static yX4_markOf, Cond.code yX4_markOf cX4_markOf 2 (some .int), Cond.constant RX4 142 (40503), Cond.methodLink RX4 157 yX4_near]
def wsX4_picked_r2 : List Cond := [Cond.instanceMethod yX4_near, Cond.selects RX4 yX4_near yX4_near, Cond.code yX4_near cX4_near 5 (some .int), Cond.fieldLink RX4 23 "FrontDoorModel" "zone" "[I"]
def wsX4_picked : List Cond := .code yX4_picked cX4_picked 4 (some .int) :: ((wsX4_picked_r1 ++ wsX4_picked_r2) ++ wsX40)
def wsX4_ask : List Cond := .code yX4_ask cX4_ask 4 none :: ([.fieldLink RX4 44 "FrontDoorModel" "asked" "[I", .fieldLink RX4 160 "FrontDoorModel" "askings" "I", .fieldLink RX4 41 "FrontDoorModel" "open" "[I", .fieldLink RX4 80 "FrontDoorModel" "asks" "[I", .fieldLink RX4 99 "FrontDoorModel" "at" "[I", .fieldLink RX4 102 "FrontDoorModel" "since" "[I", .fieldLink RX4 163 "FrontDoorModel" "tick" "I", .fieldLink RX4 105 "FrontDoorModel" "over" "[I", .fieldLink RX4 35 "FrontDoorModel" "mute" "[I", .constant RX4 166 (1000000), .fieldLink RX4 29 "FrontDoorModel" "pace" "[I", .fieldLink RX4 108 "FrontDoorModel" "fails" "[Z", .fieldLink RX4 32 "FrontDoorModel" "breaks" "[I", .fieldLink RX4 83 "FrontDoorModel" "tried" "[I", .fieldLink RX4 77 "FrontDoorModel" "state" "[I"] ++ wsX40)
def wsX4_asksFor_r1 : List Cond := [Cond.fieldLink RX4 83 "FrontDoorModel" "tried" "[I", Cond.fieldLink RX4 68 "FrontDoorModel" "key" "[I", Cond.methodLink RX4 167 yX4_mays, Cond.instanceMethod yX4_mays, Cond.selects RX4 yX4_mays yX4_mays, Cond.initialized RX4, Cond.code yX4_mays cX4_mays 4 (some .int), Cond.fieldLink RX4 114 "FrontDoorModel" "servers" "I", Cond.fieldLink RX4 41 "FrontDoorModel" "open" "[I", Cond.fieldLink RX4 26 "FrontDoorModel" "room" "[I", Cond.fieldLink RX4 38 "FrontDoorModel" "health" "[I", Cond.methodLink RX4 170 yX4_picked, Cond.instanceMethod yX4_picked, Cond.selects RX4 yX4_picked yX4_picked, Cond.code yX4_picked cX4_picked 4 (some .int), Cond.fieldLink RX4 136 "FrontDoorModel" "rule" "I", Cond.methodLink RX4 150 yX4_byTurns, Cond.instanceMethod yX4_byTurns, Cond.selects RX4 yX4_byTurns yX4_byTurns, Cond.code yX4_byTurns cX4_byTurns 6 (some .int), Cond.fieldLink RX4 20 "FrontDoorModel" "weight" "[I", Cond.fieldLink RX4 65 "FrontDoorModel" "credit" "[I", Cond.methodLink RX4 147 yX4_fewest, Cond.instanceMethod yX4_fewest]
def wsX4_asksFor_r2 : List Cond := [Cond.selects RX4 yX4_fewest yX4_fewest, Cond.code yX4_fewest cX4_fewest 4 (some .int), Cond.methodLink RX4 154 yX4_onRing, Cond.instanceMethod yX4_onRing, Cond.selects RX4 yX4_onRing yX4_onRing, Cond.code yX4_onRing cX4_onRing 8 (some .int), Cond.constant RX4 143 (65536), Cond.methodLink RX4 144 yX4_markOf, Cond.static yX4_markOf, Cond.code yX4_markOf cX4_markOf 2 (some .int), Cond.constant RX4 142 (40503), Cond.methodLink RX4 157 yX4_near, Cond.instanceMethod yX4_near, Cond.selects RX4 yX4_near yX4_near, Cond.code yX4_near cX4_near 5 (some .int), Cond.fieldLink RX4 23 "FrontDoorModel" "zone" "[I", Cond.methodLink RX4 174 yX4_ask, Cond.instanceMethod yX4_ask, Cond.selects RX4 yX4_ask yX4_ask, Cond.code yX4_ask cX4_ask 4 none, Cond.fieldLink RX4 44 "FrontDoorModel" "asked" "[I", Cond.fieldLink RX4 160 "FrontDoorModel" "askings" "I", Cond.fieldLink RX4 80 "FrontDoorModel" "asks" "[I", Cond.fieldLink RX4 99 "FrontDoorModel" "at" "[I"]
def wsX4_asksFor_r3 : List Cond := [Cond.fieldLink RX4 102 "FrontDoorModel" "since" "[I", Cond.fieldLink RX4 163 "FrontDoorModel" "tick" "I", Cond.fieldLink RX4 105 "FrontDoorModel" "over" "[I", Cond.fieldLink RX4 35 "FrontDoorModel" "mute" "[I", Cond.constant RX4 166 (1000000), Cond.fieldLink RX4 29 "FrontDoorModel" "pace" "[I", Cond.fieldLink RX4 108 "FrontDoorModel" "fails" "[Z", Cond.fieldLink RX4 32 "FrontDoorModel" "breaks" "[I", Cond.fieldLink RX4 77 "FrontDoorModel" "state" "[I"]
def wsX4_asksFor : List Cond := .code yX4_asksFor cX4_asksFor 3 (some .boolean) :: ((wsX4_asksFor_r1 ++ (wsX4_asksFor_r2 ++ wsX4_asksFor_r3)) ++ wsX40)
def wsX4_call_r1 : List Cond := [Cond.constant RX4 143 (65536), Cond.fieldLink RX4 121 "FrontDoorModel" "calls" "I", Cond.fieldLink RX4 68 "FrontDoorModel" "key" "[I", Cond.fieldLink RX4 71 "FrontDoorModel" "grade" "[I", Cond.fieldLink RX4 74 "FrontDoorModel" "due" "[I", Cond.fieldLink RX4 163 "FrontDoorModel" "tick" "I", Cond.fieldLink RX4 95 "FrontDoorModel" "safe" "[Z", Cond.fieldLink RX4 86 "FrontDoorModel" "came" "[I", Cond.fieldLink RX4 89 "FrontDoorModel" "ended" "[I", Cond.fieldLink RX4 92 "FrontDoorModel" "by" "[I", Cond.methodLink RX4 124 yX4_refuse, Cond.instanceMethod yX4_refuse, Cond.selects RX4 yX4_refuse yX4_refuse, Cond.initialized RX4, Cond.code yX4_refuse cX4_refuse 2 (some .int), Cond.fieldLink RX4 7 "FrontDoorModel" "refusals" "[I", Cond.methodLink RX4 178 yX4_asksFor, Cond.instanceMethod yX4_asksFor, Cond.selects RX4 yX4_asksFor yX4_asksFor, Cond.code yX4_asksFor cX4_asksFor 3 (some .boolean), Cond.fieldLink RX4 83 "FrontDoorModel" "tried" "[I", Cond.methodLink RX4 167 yX4_mays, Cond.instanceMethod yX4_mays, Cond.selects RX4 yX4_mays yX4_mays]
def wsX4_call_r2 : List Cond := [Cond.code yX4_mays cX4_mays 4 (some .int), Cond.fieldLink RX4 114 "FrontDoorModel" "servers" "I", Cond.fieldLink RX4 41 "FrontDoorModel" "open" "[I", Cond.fieldLink RX4 26 "FrontDoorModel" "room" "[I", Cond.fieldLink RX4 38 "FrontDoorModel" "health" "[I", Cond.methodLink RX4 170 yX4_picked, Cond.instanceMethod yX4_picked, Cond.selects RX4 yX4_picked yX4_picked, Cond.code yX4_picked cX4_picked 4 (some .int), Cond.fieldLink RX4 136 "FrontDoorModel" "rule" "I", Cond.methodLink RX4 150 yX4_byTurns, Cond.instanceMethod yX4_byTurns, Cond.selects RX4 yX4_byTurns yX4_byTurns, Cond.code yX4_byTurns cX4_byTurns 6 (some .int), Cond.fieldLink RX4 20 "FrontDoorModel" "weight" "[I", Cond.fieldLink RX4 65 "FrontDoorModel" "credit" "[I", Cond.methodLink RX4 147 yX4_fewest, Cond.instanceMethod yX4_fewest, Cond.selects RX4 yX4_fewest yX4_fewest, Cond.code yX4_fewest cX4_fewest 4 (some .int), Cond.methodLink RX4 154 yX4_onRing, Cond.instanceMethod yX4_onRing, Cond.selects RX4 yX4_onRing yX4_onRing, Cond.code yX4_onRing cX4_onRing 8 (some .int)]
def wsX4_call_r3 : List Cond := [Cond.methodLink RX4 144 yX4_markOf, Cond.static yX4_markOf, Cond.code yX4_markOf cX4_markOf 2 (some .int), Cond.constant RX4 142 (40503), Cond.methodLink RX4 157 yX4_near, Cond.instanceMethod yX4_near, Cond.selects RX4 yX4_near yX4_near, Cond.code yX4_near cX4_near 5 (some .int), Cond.fieldLink RX4 23 "FrontDoorModel" "zone" "[I", Cond.methodLink RX4 174 yX4_ask, Cond.instanceMethod yX4_ask, Cond.selects RX4 yX4_ask yX4_ask, Cond.code yX4_ask cX4_ask 4 none, Cond.fieldLink RX4 44 "FrontDoorModel" "asked" "[I", Cond.fieldLink RX4 160 "FrontDoorModel" "askings" "I", Cond.fieldLink RX4 80 "FrontDoorModel" "asks" "[I", Cond.fieldLink RX4 99 "FrontDoorModel" "at" "[I", Cond.fieldLink RX4 102 "FrontDoorModel" "since" "[I", Cond.fieldLink RX4 105 "FrontDoorModel" "over" "[I", Cond.fieldLink RX4 35 "FrontDoorModel" "mute" "[I", Cond.constant RX4 166 (1000000), Cond.fieldLink RX4 29 "FrontDoorModel" "pace" "[I", Cond.fieldLink RX4 108 "FrontDoorModel" "fails" "[Z", Cond.fieldLink RX4 32 "FrontDoorModel" "breaks" "[I"]
def wsX4_call_r4 : List Cond := [Cond.fieldLink RX4 77 "FrontDoorModel" "state" "[I"]
def wsX4_call : List Cond := .code yX4_call cX4_call 7 (some .int) :: ((wsX4_call_r1 ++ (wsX4_call_r2 ++ (wsX4_call_r3 ++ wsX4_call_r4))) ++ wsX40)
def wsX4_outsNow : List Cond := .code yX4_outsNow cX4_outsNow 4 (some .int) :: ([.fieldLink RX4 114 "FrontDoorModel" "servers" "I", .fieldLink RX4 38 "FrontDoorModel" "health" "[I"] ++ wsX40)
def wsX4_failure : List Cond := .code yX4_failure cX4_failure 3 none :: ([.fieldLink RX4 50 "FrontDoorModel" "failures" "[I", .fieldLink RX4 53 "FrontDoorModel" "row" "[I", .fieldLink RX4 38 "FrontDoorModel" "health" "[I", .fieldLink RX4 13 "FrontDoorModel" "limit" "I", .fieldLink RX4 56 "FrontDoorModel" "until" "[I", .fieldLink RX4 163 "FrontDoorModel" "tick" "I", .fieldLink RX4 59 "FrontDoorModel" "penalty" "[I", .methodLink RX4 185 Lib.Math.min.name, .static Lib.Math.min.name, .initialized "java/lang/Math", .code Lib.Math.min.name Lib.Math.min.code 2 (some .int), .fieldLink RX4 62 "FrontDoorModel" "outs" "[I", .methodLink RX4 181 yX4_outsNow, .instanceMethod yX4_outsNow, .selects RX4 yX4_outsNow yX4_outsNow, .initialized RX4, .code yX4_outsNow cX4_outsNow 4 (some .int), .fieldLink RX4 114 "FrontDoorModel" "servers" "I"] ++ wsX40)
def wsX4_answer : List Cond := .code yX4_answer cX4_answer 2 none :: ([.fieldLink RX4 47 "FrontDoorModel" "answers" "[I", .fieldLink RX4 53 "FrontDoorModel" "row" "[I", .fieldLink RX4 59 "FrontDoorModel" "penalty" "[I", .fieldLink RX4 38 "FrontDoorModel" "health" "[I"] ++ wsX40)
def wsX4_takes : List Cond := .code yX4_takes cX4_takes 4 none :: ([.fieldLink RX4 41 "FrontDoorModel" "open" "[I", .fieldLink RX4 99 "FrontDoorModel" "at" "[I", .fieldLink RX4 80 "FrontDoorModel" "asks" "[I", .fieldLink RX4 102 "FrontDoorModel" "since" "[I", .fieldLink RX4 105 "FrontDoorModel" "over" "[I", .fieldLink RX4 108 "FrontDoorModel" "fails" "[Z"] ++ wsX40)
def wsX4_ends : List Cond := .code yX4_ends cX4_ends 3 none :: ([.fieldLink RX4 80 "FrontDoorModel" "asks" "[I", .fieldLink RX4 77 "FrontDoorModel" "state" "[I", .fieldLink RX4 89 "FrontDoorModel" "ended" "[I", .fieldLink RX4 163 "FrontDoorModel" "tick" "I", .methodLink RX4 190 yX4_takes, .instanceMethod yX4_takes, .selects RX4 yX4_takes yX4_takes, .initialized RX4, .code yX4_takes cX4_takes 4 none, .fieldLink RX4 41 "FrontDoorModel" "open" "[I", .fieldLink RX4 99 "FrontDoorModel" "at" "[I", .fieldLink RX4 102 "FrontDoorModel" "since" "[I", .fieldLink RX4 105 "FrontDoorModel" "over" "[I", .fieldLink RX4 108 "FrontDoorModel" "fails" "[Z"] ++ wsX40)
def wsX4_off_r1 : List Cond := [Cond.fieldLink RX4 77 "FrontDoorModel" "state" "[I", Cond.methodLink RX4 193 yX4_isCall, Cond.instanceMethod yX4_isCall, Cond.selects RX4 yX4_isCall yX4_isCall, Cond.initialized RX4, Cond.code yX4_isCall cX4_isCall 2 (some .boolean), Cond.fieldLink RX4 121 "FrontDoorModel" "calls" "I", Cond.methodLink RX4 117 yX4_isIn, Cond.static yX4_isIn, Cond.code yX4_isIn cX4_isIn 2 (some .boolean), Cond.methodLink RX4 124 yX4_refuse, Cond.instanceMethod yX4_refuse, Cond.selects RX4 yX4_refuse yX4_refuse, Cond.code yX4_refuse cX4_refuse 2 (some .int), Cond.fieldLink RX4 7 "FrontDoorModel" "refusals" "[I", Cond.methodLink RX4 196 yX4_ends, Cond.instanceMethod yX4_ends, Cond.selects RX4 yX4_ends yX4_ends, Cond.code yX4_ends cX4_ends 3 none, Cond.fieldLink RX4 80 "FrontDoorModel" "asks" "[I", Cond.fieldLink RX4 89 "FrontDoorModel" "ended" "[I", Cond.fieldLink RX4 163 "FrontDoorModel" "tick" "I", Cond.methodLink RX4 190 yX4_takes, Cond.instanceMethod yX4_takes]
def wsX4_off_r2 : List Cond := [Cond.selects RX4 yX4_takes yX4_takes, Cond.code yX4_takes cX4_takes 4 none, Cond.fieldLink RX4 41 "FrontDoorModel" "open" "[I", Cond.fieldLink RX4 99 "FrontDoorModel" "at" "[I", Cond.fieldLink RX4 102 "FrontDoorModel" "since" "[I", Cond.fieldLink RX4 105 "FrontDoorModel" "over" "[I", Cond.fieldLink RX4 108 "FrontDoorModel" "fails" "[Z"]
def wsX4_off : List Cond := .code yX4_off cX4_off 2 (some .int) :: ((wsX4_off_r1 ++ wsX4_off_r2) ++ wsX40)
def wsX4_comesBack_r1 : List Cond := [Cond.fieldLink RX4 80 "FrontDoorModel" "asks" "[I", Cond.fieldLink RX4 99 "FrontDoorModel" "at" "[I", Cond.fieldLink RX4 105 "FrontDoorModel" "over" "[I", Cond.fieldLink RX4 163 "FrontDoorModel" "tick" "I", Cond.fieldLink RX4 108 "FrontDoorModel" "fails" "[Z", Cond.fieldLink RX4 92 "FrontDoorModel" "by" "[I", Cond.fieldLink RX4 95 "FrontDoorModel" "safe" "[Z", Cond.fieldLink RX4 74 "FrontDoorModel" "due" "[I", Cond.fieldLink RX4 206 "FrontDoorModel" "agains" "I", Cond.fieldLink RX4 17 "FrontDoorModel" "budget" "I", Cond.fieldLink RX4 121 "FrontDoorModel" "calls" "I", Cond.fieldLink RX4 77 "FrontDoorModel" "state" "[I", Cond.methodLink RX4 199 yX4_answer, Cond.instanceMethod yX4_answer, Cond.selects RX4 yX4_answer yX4_answer, Cond.initialized RX4, Cond.code yX4_answer cX4_answer 2 none, Cond.fieldLink RX4 47 "FrontDoorModel" "answers" "[I", Cond.fieldLink RX4 53 "FrontDoorModel" "row" "[I", Cond.fieldLink RX4 59 "FrontDoorModel" "penalty" "[I", Cond.fieldLink RX4 38 "FrontDoorModel" "health" "[I", Cond.methodLink RX4 196 yX4_ends, Cond.instanceMethod yX4_ends, Cond.selects RX4 yX4_ends yX4_ends]
def wsX4_comesBack_r2 : List Cond := [Cond.code yX4_ends cX4_ends 3 none, Cond.fieldLink RX4 89 "FrontDoorModel" "ended" "[I", Cond.methodLink RX4 190 yX4_takes, Cond.instanceMethod yX4_takes, Cond.selects RX4 yX4_takes yX4_takes, Cond.code yX4_takes cX4_takes 4 none, Cond.fieldLink RX4 41 "FrontDoorModel" "open" "[I", Cond.fieldLink RX4 102 "FrontDoorModel" "since" "[I", Cond.methodLink RX4 203 yX4_failure, Cond.instanceMethod yX4_failure, Cond.selects RX4 yX4_failure yX4_failure, Cond.code yX4_failure cX4_failure 3 none, Cond.fieldLink RX4 50 "FrontDoorModel" "failures" "[I", Cond.fieldLink RX4 13 "FrontDoorModel" "limit" "I", Cond.fieldLink RX4 56 "FrontDoorModel" "until" "[I", Cond.methodLink RX4 185 Lib.Math.min.name, Cond.static Lib.Math.min.name, Cond.initialized "java/lang/Math", Cond.code Lib.Math.min.name Lib.Math.min.code 2 (some .int), Cond.fieldLink RX4 62 "FrontDoorModel" "outs" "[I", Cond.methodLink RX4 181 yX4_outsNow, Cond.instanceMethod yX4_outsNow, Cond.selects RX4 yX4_outsNow yX4_outsNow, Cond.code yX4_outsNow cX4_outsNow 4 (some .int)]
def wsX4_comesBack_r3 : List Cond := [Cond.fieldLink RX4 114 "FrontDoorModel" "servers" "I"]
def wsX4_comesBack : List Cond := .code yX4_comesBack cX4_comesBack 5 (some .boolean) :: ((wsX4_comesBack_r1 ++ (wsX4_comesBack_r2 ++ wsX4_comesBack_r3)) ++ wsX40)
def wsX4_isDue_r1 : List Cond := [Cond.fieldLink RX4 74 "FrontDoorModel" "due" "[I", Cond.fieldLink RX4 163 "FrontDoorModel" "tick" "I", Cond.fieldLink RX4 77 "FrontDoorModel" "state" "[I", Cond.fieldLink RX4 80 "FrontDoorModel" "asks" "[I", Cond.fieldLink RX4 99 "FrontDoorModel" "at" "[I", Cond.methodLink RX4 190 yX4_takes, Cond.instanceMethod yX4_takes, Cond.selects RX4 yX4_takes yX4_takes, Cond.initialized RX4, Cond.code yX4_takes cX4_takes 4 none, Cond.fieldLink RX4 41 "FrontDoorModel" "open" "[I", Cond.fieldLink RX4 102 "FrontDoorModel" "since" "[I", Cond.fieldLink RX4 105 "FrontDoorModel" "over" "[I", Cond.fieldLink RX4 108 "FrontDoorModel" "fails" "[Z", Cond.methodLink RX4 203 yX4_failure, Cond.instanceMethod yX4_failure, Cond.selects RX4 yX4_failure yX4_failure, Cond.code yX4_failure cX4_failure 3 none, Cond.fieldLink RX4 50 "FrontDoorModel" "failures" "[I", Cond.fieldLink RX4 53 "FrontDoorModel" "row" "[I", Cond.fieldLink RX4 38 "FrontDoorModel" "health" "[I", Cond.fieldLink RX4 13 "FrontDoorModel" "limit" "I", Cond.fieldLink RX4 56 "FrontDoorModel" "until" "[I", Cond.fieldLink RX4 59 "FrontDoorModel" "penalty" "[I"]
def wsX4_isDue_r2 : List Cond := [Cond.methodLink RX4 185 Lib.Math.min.name, Cond.static Lib.Math.min.name, Cond.initialized "java/lang/Math", Cond.code Lib.Math.min.name Lib.Math.min.code 2 (some .int), Cond.fieldLink RX4 62 "FrontDoorModel" "outs" "[I", Cond.methodLink RX4 181 yX4_outsNow, Cond.instanceMethod yX4_outsNow, Cond.selects RX4 yX4_outsNow yX4_outsNow, Cond.code yX4_outsNow cX4_outsNow 4 (some .int), Cond.fieldLink RX4 114 "FrontDoorModel" "servers" "I", Cond.methodLink RX4 196 yX4_ends, Cond.instanceMethod yX4_ends, Cond.selects RX4 yX4_ends yX4_ends, Cond.code yX4_ends cX4_ends 3 none, Cond.fieldLink RX4 89 "FrontDoorModel" "ended" "[I"]
def wsX4_isDue : List Cond := .code yX4_isDue cX4_isDue 4 (some .boolean) :: ((wsX4_isDue_r1 ++ wsX4_isDue_r2) ++ wsX40)
def wsX4_hedges_r1 : List Cond := [Cond.fieldLink RX4 77 "FrontDoorModel" "state" "[I", Cond.fieldLink RX4 95 "FrontDoorModel" "safe" "[Z", Cond.fieldLink RX4 80 "FrontDoorModel" "asks" "[I", Cond.fieldLink RX4 102 "FrontDoorModel" "since" "[I", Cond.fieldLink RX4 139 "FrontDoorModel" "hedge" "I", Cond.fieldLink RX4 163 "FrontDoorModel" "tick" "I", Cond.fieldLink RX4 83 "FrontDoorModel" "tried" "[I", Cond.fieldLink RX4 209 "FrontDoorModel" "seconds" "I", Cond.methodLink RX4 167 yX4_mays, Cond.instanceMethod yX4_mays, Cond.selects RX4 yX4_mays yX4_mays, Cond.initialized RX4, Cond.code yX4_mays cX4_mays 4 (some .int), Cond.fieldLink RX4 114 "FrontDoorModel" "servers" "I", Cond.fieldLink RX4 41 "FrontDoorModel" "open" "[I", Cond.fieldLink RX4 26 "FrontDoorModel" "room" "[I", Cond.fieldLink RX4 38 "FrontDoorModel" "health" "[I", Cond.methodLink RX4 147 yX4_fewest, Cond.instanceMethod yX4_fewest, Cond.selects RX4 yX4_fewest yX4_fewest, Cond.code yX4_fewest cX4_fewest 4 (some .int), Cond.fieldLink RX4 20 "FrontDoorModel" "weight" "[I", Cond.methodLink RX4 174 yX4_ask, Cond.instanceMethod yX4_ask]
def wsX4_hedges_r2 : List Cond := [Cond.selects RX4 yX4_ask yX4_ask, Cond.code yX4_ask cX4_ask 4 none, Cond.fieldLink RX4 44 "FrontDoorModel" "asked" "[I", Cond.fieldLink RX4 160 "FrontDoorModel" "askings" "I", Cond.fieldLink RX4 99 "FrontDoorModel" "at" "[I", Cond.fieldLink RX4 105 "FrontDoorModel" "over" "[I", Cond.fieldLink RX4 35 "FrontDoorModel" "mute" "[I", Cond.constant RX4 166 (1000000), Cond.fieldLink RX4 29 "FrontDoorModel" "pace" "[I", Cond.fieldLink RX4 108 "FrontDoorModel" "fails" "[Z", Cond.fieldLink RX4 32 "FrontDoorModel" "breaks" "[I"]
def wsX4_hedges : List Cond := .code yX4_hedges cX4_hedges 3 none :: ((wsX4_hedges_r1 ++ wsX4_hedges_r2) ++ wsX40)
def wsX4_isAhead : List Cond := .code yX4_isAhead cX4_isAhead 3 (some .boolean) :: ([.fieldLink RX4 71 "FrontDoorModel" "grade" "[I", .fieldLink RX4 74 "FrontDoorModel" "due" "[I"] ++ wsX40)
def wsX4_line : List Cond := .code yX4_line cX4_line 3 none :: ([.fieldLink RX4 212 "FrontDoorModel" "queued" "I", .fieldLink RX4 121 "FrontDoorModel" "calls" "I", .fieldLink RX4 77 "FrontDoorModel" "state" "[I", .fieldLink RX4 111 "FrontDoorModel" "queue" "[I", .methodLink RX4 215 yX4_isAhead, .instanceMethod yX4_isAhead, .selects RX4 yX4_isAhead yX4_isAhead, .initialized RX4, .code yX4_isAhead cX4_isAhead 3 (some .boolean), .fieldLink RX4 71 "FrontDoorModel" "grade" "[I", .fieldLink RX4 74 "FrontDoorModel" "due" "[I"] ++ wsX40)
def wsX4_goesOn_r1 : List Cond := [Cond.fieldLink RX4 163 "FrontDoorModel" "tick" "I", Cond.fieldLink RX4 121 "FrontDoorModel" "calls" "I", Cond.fieldLink RX4 77 "FrontDoorModel" "state" "[I", Cond.fieldLink RX4 114 "FrontDoorModel" "servers" "I", Cond.fieldLink RX4 38 "FrontDoorModel" "health" "[I", Cond.fieldLink RX4 56 "FrontDoorModel" "until" "[I", Cond.fieldLink RX4 139 "FrontDoorModel" "hedge" "I", Cond.fieldLink RX4 212 "FrontDoorModel" "queued" "I", Cond.fieldLink RX4 111 "FrontDoorModel" "queue" "[I", Cond.fieldLink RX4 41 "FrontDoorModel" "open" "[I", Cond.methodLink RX4 218 yX4_comesBack, Cond.instanceMethod yX4_comesBack, Cond.selects RX4 yX4_comesBack yX4_comesBack, Cond.initialized RX4, Cond.code yX4_comesBack cX4_comesBack 5 (some .boolean), Cond.fieldLink RX4 80 "FrontDoorModel" "asks" "[I", Cond.fieldLink RX4 99 "FrontDoorModel" "at" "[I", Cond.fieldLink RX4 105 "FrontDoorModel" "over" "[I", Cond.fieldLink RX4 108 "FrontDoorModel" "fails" "[Z", Cond.fieldLink RX4 92 "FrontDoorModel" "by" "[I", Cond.fieldLink RX4 95 "FrontDoorModel" "safe" "[Z", Cond.fieldLink RX4 74 "FrontDoorModel" "due" "[I", Cond.fieldLink RX4 206 "FrontDoorModel" "agains" "I", Cond.fieldLink RX4 17 "FrontDoorModel" "budget" "I"]
def wsX4_goesOn_r2 : List Cond := [Cond.methodLink RX4 199 yX4_answer, Cond.instanceMethod yX4_answer, Cond.selects RX4 yX4_answer yX4_answer, Cond.code yX4_answer cX4_answer 2 none, Cond.fieldLink RX4 47 "FrontDoorModel" "answers" "[I", Cond.fieldLink RX4 53 "FrontDoorModel" "row" "[I", Cond.fieldLink RX4 59 "FrontDoorModel" "penalty" "[I", Cond.methodLink RX4 196 yX4_ends, Cond.instanceMethod yX4_ends, Cond.selects RX4 yX4_ends yX4_ends, Cond.code yX4_ends cX4_ends 3 none, Cond.fieldLink RX4 89 "FrontDoorModel" "ended" "[I", Cond.methodLink RX4 190 yX4_takes, Cond.instanceMethod yX4_takes, Cond.selects RX4 yX4_takes yX4_takes, Cond.code yX4_takes cX4_takes 4 none, Cond.fieldLink RX4 102 "FrontDoorModel" "since" "[I", Cond.methodLink RX4 203 yX4_failure, Cond.instanceMethod yX4_failure, Cond.selects RX4 yX4_failure yX4_failure, Cond.code yX4_failure cX4_failure 3 none, Cond.fieldLink RX4 50 "FrontDoorModel" "failures" "[I", Cond.fieldLink RX4 13 "FrontDoorModel" "limit" "I", Cond.methodLink RX4 185 Lib.Math.min.name]
def wsX4_goesOn_r3 : List Cond := [Cond.static Lib.Math.min.name, Cond.initialized "java/lang/Math", Cond.code Lib.Math.min.name Lib.Math.min.code 2 (some .int), Cond.fieldLink RX4 62 "FrontDoorModel" "outs" "[I", Cond.methodLink RX4 181 yX4_outsNow, Cond.instanceMethod yX4_outsNow, Cond.selects RX4 yX4_outsNow yX4_outsNow, Cond.code yX4_outsNow cX4_outsNow 4 (some .int), Cond.methodLink RX4 221 yX4_isDue, Cond.instanceMethod yX4_isDue, Cond.selects RX4 yX4_isDue yX4_isDue, Cond.code yX4_isDue cX4_isDue 4 (some .boolean), Cond.methodLink RX4 224 yX4_hedges, Cond.instanceMethod yX4_hedges, Cond.selects RX4 yX4_hedges yX4_hedges, Cond.code yX4_hedges cX4_hedges 3 none, Cond.fieldLink RX4 83 "FrontDoorModel" "tried" "[I", Cond.fieldLink RX4 209 "FrontDoorModel" "seconds" "I", Cond.methodLink RX4 167 yX4_mays, Cond.instanceMethod yX4_mays, Cond.selects RX4 yX4_mays yX4_mays, Cond.code yX4_mays cX4_mays 4 (some .int), Cond.fieldLink RX4 26 "FrontDoorModel" "room" "[I", Cond.methodLink RX4 147 yX4_fewest]
def wsX4_goesOn_r4 : List Cond := [Cond.instanceMethod yX4_fewest, Cond.selects RX4 yX4_fewest yX4_fewest, Cond.code yX4_fewest cX4_fewest 4 (some .int), Cond.fieldLink RX4 20 "FrontDoorModel" "weight" "[I", Cond.methodLink RX4 174 yX4_ask, Cond.instanceMethod yX4_ask, Cond.selects RX4 yX4_ask yX4_ask, Cond.code yX4_ask cX4_ask 4 none, Cond.fieldLink RX4 44 "FrontDoorModel" "asked" "[I", Cond.fieldLink RX4 160 "FrontDoorModel" "askings" "I", Cond.fieldLink RX4 35 "FrontDoorModel" "mute" "[I", Cond.constant RX4 166 (1000000), Cond.fieldLink RX4 29 "FrontDoorModel" "pace" "[I", Cond.fieldLink RX4 32 "FrontDoorModel" "breaks" "[I", Cond.methodLink RX4 227 yX4_line, Cond.instanceMethod yX4_line, Cond.selects RX4 yX4_line yX4_line, Cond.code yX4_line cX4_line 3 none, Cond.methodLink RX4 215 yX4_isAhead, Cond.instanceMethod yX4_isAhead, Cond.selects RX4 yX4_isAhead yX4_isAhead, Cond.code yX4_isAhead cX4_isAhead 3 (some .boolean), Cond.fieldLink RX4 71 "FrontDoorModel" "grade" "[I", Cond.methodLink RX4 178 yX4_asksFor]
def wsX4_goesOn_r5 : List Cond := [Cond.instanceMethod yX4_asksFor, Cond.selects RX4 yX4_asksFor yX4_asksFor, Cond.code yX4_asksFor cX4_asksFor 3 (some .boolean), Cond.fieldLink RX4 68 "FrontDoorModel" "key" "[I", Cond.methodLink RX4 170 yX4_picked, Cond.instanceMethod yX4_picked, Cond.selects RX4 yX4_picked yX4_picked, Cond.code yX4_picked cX4_picked 4 (some .int), Cond.fieldLink RX4 136 "FrontDoorModel" "rule" "I", Cond.methodLink RX4 150 yX4_byTurns, Cond.instanceMethod yX4_byTurns, Cond.selects RX4 yX4_byTurns yX4_byTurns, Cond.code yX4_byTurns cX4_byTurns 6 (some .int), Cond.fieldLink RX4 65 "FrontDoorModel" "credit" "[I", Cond.methodLink RX4 154 yX4_onRing, Cond.instanceMethod yX4_onRing, Cond.selects RX4 yX4_onRing yX4_onRing, Cond.code yX4_onRing cX4_onRing 8 (some .int), Cond.constant RX4 143 (65536), Cond.methodLink RX4 144 yX4_markOf, Cond.static yX4_markOf, Cond.code yX4_markOf cX4_markOf 2 (some .int), Cond.constant RX4 142 (40503), Cond.methodLink RX4 157 yX4_near]
def wsX4_goesOn_r6 : List Cond := [Cond.instanceMethod yX4_near, Cond.selects RX4 yX4_near yX4_near, Cond.code yX4_near cX4_near 5 (some .int), Cond.fieldLink RX4 23 "FrontDoorModel" "zone" "[I"]
def wsX4_goesOn : List Cond := .code yX4_goesOn cX4_goesOn 4 (some .int) :: ((wsX4_goesOn_r1 ++ (wsX4_goesOn_r2 ++ (wsX4_goesOn_r3 ++ (wsX4_goesOn_r4 ++ (wsX4_goesOn_r5 ++ wsX4_goesOn_r6))))) ++ wsX40)
def wsX4_ticks_r1 : List Cond := [Cond.fieldLink RX4 163 "FrontDoorModel" "tick" "I", Cond.methodLink RX4 124 yX4_refuse, Cond.instanceMethod yX4_refuse, Cond.selects RX4 yX4_refuse yX4_refuse, Cond.initialized RX4, Cond.code yX4_refuse cX4_refuse 2 (some .int), Cond.fieldLink RX4 7 "FrontDoorModel" "refusals" "[I", Cond.methodLink RX4 230 yX4_goesOn, Cond.instanceMethod yX4_goesOn, Cond.selects RX4 yX4_goesOn yX4_goesOn, Cond.code yX4_goesOn cX4_goesOn 4 (some .int), Cond.fieldLink RX4 121 "FrontDoorModel" "calls" "I", Cond.fieldLink RX4 77 "FrontDoorModel" "state" "[I", Cond.fieldLink RX4 114 "FrontDoorModel" "servers" "I", Cond.fieldLink RX4 38 "FrontDoorModel" "health" "[I", Cond.fieldLink RX4 56 "FrontDoorModel" "until" "[I", Cond.fieldLink RX4 139 "FrontDoorModel" "hedge" "I", Cond.fieldLink RX4 212 "FrontDoorModel" "queued" "I", Cond.fieldLink RX4 111 "FrontDoorModel" "queue" "[I", Cond.fieldLink RX4 41 "FrontDoorModel" "open" "[I", Cond.methodLink RX4 218 yX4_comesBack, Cond.instanceMethod yX4_comesBack, Cond.selects RX4 yX4_comesBack yX4_comesBack, Cond.code yX4_comesBack cX4_comesBack 5 (some .boolean)]
def wsX4_ticks_r2 : List Cond := [Cond.fieldLink RX4 80 "FrontDoorModel" "asks" "[I", Cond.fieldLink RX4 99 "FrontDoorModel" "at" "[I", Cond.fieldLink RX4 105 "FrontDoorModel" "over" "[I", Cond.fieldLink RX4 108 "FrontDoorModel" "fails" "[Z", Cond.fieldLink RX4 92 "FrontDoorModel" "by" "[I", Cond.fieldLink RX4 95 "FrontDoorModel" "safe" "[Z", Cond.fieldLink RX4 74 "FrontDoorModel" "due" "[I", Cond.fieldLink RX4 206 "FrontDoorModel" "agains" "I", Cond.fieldLink RX4 17 "FrontDoorModel" "budget" "I", Cond.methodLink RX4 199 yX4_answer, Cond.instanceMethod yX4_answer, Cond.selects RX4 yX4_answer yX4_answer, Cond.code yX4_answer cX4_answer 2 none, Cond.fieldLink RX4 47 "FrontDoorModel" "answers" "[I", Cond.fieldLink RX4 53 "FrontDoorModel" "row" "[I", Cond.fieldLink RX4 59 "FrontDoorModel" "penalty" "[I", Cond.methodLink RX4 196 yX4_ends, Cond.instanceMethod yX4_ends, Cond.selects RX4 yX4_ends yX4_ends, Cond.code yX4_ends cX4_ends 3 none, Cond.fieldLink RX4 89 "FrontDoorModel" "ended" "[I", Cond.methodLink RX4 190 yX4_takes, Cond.instanceMethod yX4_takes, Cond.selects RX4 yX4_takes yX4_takes]
def wsX4_ticks_r3 : List Cond := [Cond.code yX4_takes cX4_takes 4 none, Cond.fieldLink RX4 102 "FrontDoorModel" "since" "[I", Cond.methodLink RX4 203 yX4_failure, Cond.instanceMethod yX4_failure, Cond.selects RX4 yX4_failure yX4_failure, Cond.code yX4_failure cX4_failure 3 none, Cond.fieldLink RX4 50 "FrontDoorModel" "failures" "[I", Cond.fieldLink RX4 13 "FrontDoorModel" "limit" "I", Cond.methodLink RX4 185 Lib.Math.min.name, Cond.static Lib.Math.min.name, Cond.initialized "java/lang/Math", Cond.code Lib.Math.min.name Lib.Math.min.code 2 (some .int), Cond.fieldLink RX4 62 "FrontDoorModel" "outs" "[I", Cond.methodLink RX4 181 yX4_outsNow, Cond.instanceMethod yX4_outsNow, Cond.selects RX4 yX4_outsNow yX4_outsNow, Cond.code yX4_outsNow cX4_outsNow 4 (some .int), Cond.methodLink RX4 221 yX4_isDue, Cond.instanceMethod yX4_isDue, Cond.selects RX4 yX4_isDue yX4_isDue, Cond.code yX4_isDue cX4_isDue 4 (some .boolean), Cond.methodLink RX4 224 yX4_hedges, Cond.instanceMethod yX4_hedges, Cond.selects RX4 yX4_hedges yX4_hedges]
def wsX4_ticks_r4 : List Cond := [Cond.code yX4_hedges cX4_hedges 3 none, Cond.fieldLink RX4 83 "FrontDoorModel" "tried" "[I", Cond.fieldLink RX4 209 "FrontDoorModel" "seconds" "I", Cond.methodLink RX4 167 yX4_mays, Cond.instanceMethod yX4_mays, Cond.selects RX4 yX4_mays yX4_mays, Cond.code yX4_mays cX4_mays 4 (some .int), Cond.fieldLink RX4 26 "FrontDoorModel" "room" "[I", Cond.methodLink RX4 147 yX4_fewest, Cond.instanceMethod yX4_fewest, Cond.selects RX4 yX4_fewest yX4_fewest, Cond.code yX4_fewest cX4_fewest 4 (some .int), Cond.fieldLink RX4 20 "FrontDoorModel" "weight" "[I", Cond.methodLink RX4 174 yX4_ask, Cond.instanceMethod yX4_ask, Cond.selects RX4 yX4_ask yX4_ask, Cond.code yX4_ask cX4_ask 4 none, Cond.fieldLink RX4 44 "FrontDoorModel" "asked" "[I", Cond.fieldLink RX4 160 "FrontDoorModel" "askings" "I", Cond.fieldLink RX4 35 "FrontDoorModel" "mute" "[I", Cond.constant RX4 166 (1000000), Cond.fieldLink RX4 29 "FrontDoorModel" "pace" "[I", Cond.fieldLink RX4 32 "FrontDoorModel" "breaks" "[I", Cond.methodLink RX4 227 yX4_line]
def wsX4_ticks_r5 : List Cond := [Cond.instanceMethod yX4_line, Cond.selects RX4 yX4_line yX4_line, Cond.code yX4_line cX4_line 3 none, Cond.methodLink RX4 215 yX4_isAhead, Cond.instanceMethod yX4_isAhead, Cond.selects RX4 yX4_isAhead yX4_isAhead, Cond.code yX4_isAhead cX4_isAhead 3 (some .boolean), Cond.fieldLink RX4 71 "FrontDoorModel" "grade" "[I", Cond.methodLink RX4 178 yX4_asksFor, Cond.instanceMethod yX4_asksFor, Cond.selects RX4 yX4_asksFor yX4_asksFor, Cond.code yX4_asksFor cX4_asksFor 3 (some .boolean), Cond.fieldLink RX4 68 "FrontDoorModel" "key" "[I", Cond.methodLink RX4 170 yX4_picked, Cond.instanceMethod yX4_picked, Cond.selects RX4 yX4_picked yX4_picked, Cond.code yX4_picked cX4_picked 4 (some .int), Cond.fieldLink RX4 136 "FrontDoorModel" "rule" "I", Cond.methodLink RX4 150 yX4_byTurns, Cond.instanceMethod yX4_byTurns, Cond.selects RX4 yX4_byTurns yX4_byTurns, Cond.code yX4_byTurns cX4_byTurns 6 (some .int), Cond.fieldLink RX4 65 "FrontDoorModel" "credit" "[I", Cond.methodLink RX4 154 yX4_onRing]
def wsX4_ticks_r6 : List Cond := [Cond.instanceMethod yX4_onRing, Cond.selects RX4 yX4_onRing yX4_onRing, Cond.code yX4_onRing cX4_onRing 8 (some .int), Cond.constant RX4 143 (65536), Cond.methodLink RX4 144 yX4_markOf, Cond.static yX4_markOf, Cond.code yX4_markOf cX4_markOf 2 (some .int), Cond.constant RX4 142 (40503), Cond.methodLink RX4 157 yX4_near, Cond.instanceMethod yX4_near, Cond.selects RX4 yX4_near yX4_near, Cond.code yX4_near cX4_near 5 (some .int), Cond.fieldLink RX4 23 "FrontDoorModel" "zone" "[I"]
def wsX4_ticks : List Cond := .code yX4_ticks cX4_ticks 4 (some .int) :: ((wsX4_ticks_r1 ++ (wsX4_ticks_r2 ++ (wsX4_ticks_r3 ++ (wsX4_ticks_r4 ++ (wsX4_ticks_r5 ++ wsX4_ticks_r6))))) ++ wsX40)
def wsX4_pick_r1 : List Cond := [Cond.constant RX4 143 (65536), Cond.methodLink RX4 124 yX4_refuse, Cond.instanceMethod yX4_refuse, Cond.selects RX4 yX4_refuse yX4_refuse, Cond.initialized RX4, Cond.code yX4_refuse cX4_refuse 2 (some .int), Cond.fieldLink RX4 7 "FrontDoorModel" "refusals" "[I", Cond.methodLink RX4 167 yX4_mays, Cond.instanceMethod yX4_mays, Cond.selects RX4 yX4_mays yX4_mays, Cond.code yX4_mays cX4_mays 4 (some .int), Cond.fieldLink RX4 114 "FrontDoorModel" "servers" "I", Cond.fieldLink RX4 41 "FrontDoorModel" "open" "[I", Cond.fieldLink RX4 26 "FrontDoorModel" "room" "[I", Cond.fieldLink RX4 38 "FrontDoorModel" "health" "[I", Cond.methodLink RX4 170 yX4_picked, Cond.instanceMethod yX4_picked, Cond.selects RX4 yX4_picked yX4_picked, Cond.code yX4_picked cX4_picked 4 (some .int), Cond.fieldLink RX4 136 "FrontDoorModel" "rule" "I", Cond.methodLink RX4 150 yX4_byTurns, Cond.instanceMethod yX4_byTurns, Cond.selects RX4 yX4_byTurns yX4_byTurns, Cond.code yX4_byTurns cX4_byTurns 6 (some .int)]
def wsX4_pick_r2 : List Cond := [Cond.fieldLink RX4 20 "FrontDoorModel" "weight" "[I", Cond.fieldLink RX4 65 "FrontDoorModel" "credit" "[I", Cond.methodLink RX4 147 yX4_fewest, Cond.instanceMethod yX4_fewest, Cond.selects RX4 yX4_fewest yX4_fewest, Cond.code yX4_fewest cX4_fewest 4 (some .int), Cond.methodLink RX4 154 yX4_onRing, Cond.instanceMethod yX4_onRing, Cond.selects RX4 yX4_onRing yX4_onRing, Cond.code yX4_onRing cX4_onRing 8 (some .int), Cond.methodLink RX4 144 yX4_markOf, Cond.static yX4_markOf, Cond.code yX4_markOf cX4_markOf 2 (some .int), Cond.constant RX4 142 (40503), Cond.methodLink RX4 157 yX4_near, Cond.instanceMethod yX4_near, Cond.selects RX4 yX4_near yX4_near, Cond.code yX4_near cX4_near 5 (some .int), Cond.fieldLink RX4 23 "FrontDoorModel" "zone" "[I"]
def wsX4_pick : List Cond := .code yX4_pick cX4_pick 3 (some .int) :: ((wsX4_pick_r1 ++ wsX4_pick_r2) ++ wsX40)
def wsX4_callOf_r1 : List Cond := [Cond.fieldLink RX4 77 "FrontDoorModel" "state" "[I", Cond.fieldLink RX4 68 "FrontDoorModel" "key" "[I", Cond.fieldLink RX4 71 "FrontDoorModel" "grade" "[I", Cond.fieldLink RX4 74 "FrontDoorModel" "due" "[I", Cond.fieldLink RX4 95 "FrontDoorModel" "safe" "[Z", Cond.fieldLink RX4 80 "FrontDoorModel" "asks" "[I", Cond.fieldLink RX4 92 "FrontDoorModel" "by" "[I", Cond.fieldLink RX4 99 "FrontDoorModel" "at" "[I", Cond.fieldLink RX4 83 "FrontDoorModel" "tried" "[I", Cond.fieldLink RX4 86 "FrontDoorModel" "came" "[I", Cond.fieldLink RX4 89 "FrontDoorModel" "ended" "[I", Cond.methodLink RX4 193 yX4_isCall, Cond.instanceMethod yX4_isCall, Cond.selects RX4 yX4_isCall yX4_isCall, Cond.initialized RX4, Cond.code yX4_isCall cX4_isCall 2 (some .boolean), Cond.fieldLink RX4 121 "FrontDoorModel" "calls" "I", Cond.methodLink RX4 117 yX4_isIn, Cond.static yX4_isIn, Cond.code yX4_isIn cX4_isIn 2 (some .boolean), Cond.methodLink RX4 124 yX4_refuse, Cond.instanceMethod yX4_refuse, Cond.selects RX4 yX4_refuse yX4_refuse, Cond.code yX4_refuse cX4_refuse 2 (some .int)]
def wsX4_callOf_r2 : List Cond := [Cond.fieldLink RX4 7 "FrontDoorModel" "refusals" "[I"]
def wsX4_callOf : List Cond := .code yX4_callOf cX4_callOf 3 (some .int) :: ((wsX4_callOf_r1 ++ wsX4_callOf_r2) ++ wsX40)
def wsX4_mark : List Cond := .code yX4_mark cX4_mark 3 (some .int) :: ([.methodLink RX4 128 yX4_isServer, .instanceMethod yX4_isServer, .selects RX4 yX4_isServer yX4_isServer, .initialized RX4, .code yX4_isServer cX4_isServer 2 (some .boolean), .fieldLink RX4 114 "FrontDoorModel" "servers" "I", .methodLink RX4 117 yX4_isIn, .static yX4_isIn, .code yX4_isIn cX4_isIn 2 (some .boolean), .methodLink RX4 124 yX4_refuse, .instanceMethod yX4_refuse, .selects RX4 yX4_refuse yX4_refuse, .code yX4_refuse cX4_refuse 2 (some .int), .fieldLink RX4 7 "FrontDoorModel" "refusals" "[I", .methodLink RX4 144 yX4_markOf, .static yX4_markOf, .code yX4_markOf cX4_markOf 2 (some .int), .constant RX4 142 (40503), .constant RX4 143 (65536)] ++ wsX40)
def wsX4_queue : List Cond := .code yX4_queue cX4_queue 2 (some .int) :: ([.fieldLink RX4 212 "FrontDoorModel" "queued" "I", .fieldLink RX4 111 "FrontDoorModel" "queue" "[I", .methodLink RX4 227 yX4_line, .instanceMethod yX4_line, .selects RX4 yX4_line yX4_line, .initialized RX4, .code yX4_line cX4_line 3 none, .fieldLink RX4 121 "FrontDoorModel" "calls" "I", .fieldLink RX4 77 "FrontDoorModel" "state" "[I", .methodLink RX4 215 yX4_isAhead, .instanceMethod yX4_isAhead, .selects RX4 yX4_isAhead yX4_isAhead, .code yX4_isAhead cX4_isAhead 3 (some .boolean), .fieldLink RX4 71 "FrontDoorModel" "grade" "[I", .fieldLink RX4 74 "FrontDoorModel" "due" "[I", .methodLink RX4 117 yX4_isIn, .static yX4_isIn, .code yX4_isIn cX4_isIn 2 (some .boolean)] ++ wsX40)
def wsX4_share : List Cond := .code yX4_share cX4_share 2 (some .int) :: ([.fieldLink RX4 160 "FrontDoorModel" "askings" "I", .fieldLink RX4 44 "FrontDoorModel" "asked" "[I", .methodLink RX4 128 yX4_isServer, .instanceMethod yX4_isServer, .selects RX4 yX4_isServer yX4_isServer, .initialized RX4, .code yX4_isServer cX4_isServer 2 (some .boolean), .fieldLink RX4 114 "FrontDoorModel" "servers" "I", .methodLink RX4 117 yX4_isIn, .static yX4_isIn, .code yX4_isIn cX4_isIn 2 (some .boolean), .methodLink RX4 124 yX4_refuse, .instanceMethod yX4_refuse, .selects RX4 yX4_refuse yX4_refuse, .code yX4_refuse cX4_refuse 2 (some .int), .fieldLink RX4 7 "FrontDoorModel" "refusals" "[I"] ++ wsX40)
def wsX4_inState : List Cond := .code yX4_inState cX4_inState 4 (some .int) :: ([.fieldLink RX4 121 "FrontDoorModel" "calls" "I", .fieldLink RX4 77 "FrontDoorModel" "state" "[I"] ++ wsX40)
def wsX4_count : List Cond := .code yX4_count cX4_count 4 (some .int) :: ([.fieldLink RX4 7 "FrontDoorModel" "refusals" "[I", .fieldLink RX4 163 "FrontDoorModel" "tick" "I", .fieldLink RX4 114 "FrontDoorModel" "servers" "I", .fieldLink RX4 121 "FrontDoorModel" "calls" "I", .fieldLink RX4 160 "FrontDoorModel" "askings" "I", .fieldLink RX4 206 "FrontDoorModel" "agains" "I", .fieldLink RX4 209 "FrontDoorModel" "seconds" "I", .fieldLink RX4 41 "FrontDoorModel" "open" "[I", .methodLink RX4 235 yX4_inState, .instanceMethod yX4_inState, .selects RX4 yX4_inState yX4_inState, .initialized RX4, .code yX4_inState cX4_inState 4 (some .int), .fieldLink RX4 77 "FrontDoorModel" "state" "[I"] ++ wsX40)
def wsJ9_max_7cf53 : List Cond := .code yJ9_max_7cf53 cJ9_max_7cf53 2 (some .int) :: ([])
def wsJ9_min_7cf53 : List Cond := .code yJ9_min_7cf53 cJ9_min_7cf53 2 (some .int) :: ([])
def wsL_law_r1 : List Cond := [Cond.classLink RL 7 RX3, Cond.instantiable RX3 13, Cond.initialized RX3, Cond.classLink RL 10 RX4, Cond.instantiable RX4 43, Cond.initialized RX4, Cond.methodLink RL 9 yX3_init, Cond.instanceMethod yX3_init, Cond.code yX3_init cX3_init 1 none, Cond.methodLink RX3 1 objectInit, Cond.instanceMethod objectInit, Cond.code objectInit ⟨#[0xb1]⟩ 1 none, Cond.classLink RX3 7 RJx4a65c, Cond.instantiable RJx4a65c 3, Cond.initialized RJx4a65c, Cond.fieldLink RX3 10 "FrontDoor" "servers" "Ljava/util/ArrayList;", Cond.fieldLink RX3 16 "FrontDoor" "calls" "Ljava/util/ArrayList;", Cond.fieldLink RX3 19 "FrontDoor" "live" "Ljava/util/ArrayList;", Cond.fieldLink RX3 22 "FrontDoor" "line" "Ljava/util/ArrayList;", Cond.arrayClass .int, Cond.fieldLink RX3 25 "FrontDoor" "refusals" "[I", Cond.fieldLink RX3 29 "FrontDoor" "ruleNow" "I", Cond.fieldLink RX3 33 "FrontDoor" "limitNow" "I", Cond.fieldLink RX3 36 "FrontDoor" "budgetNow" "I"]
def wsL_law_r2 : List Cond := [Cond.methodLink RX3 9 yJx4a65c_init_da8c8, Cond.instanceMethod yJx4a65c_init_da8c8, Cond.code yJx4a65c_init_da8c8 cJx4a65c_init_da8c8 1 none, Cond.fieldLink RJx4a65c 39 "java/util/ArrayList" "DEFAULTCAPACITY_EMPTY_ELEMENTDATA" "[Ljava/lang/Object;", Cond.fieldLink RJx4a65c 9 "java/util/ArrayList" "elementData" "[Ljava/lang/Object;", Cond.methodLink RJx4a65c 1 yJxc12de_init_da8c8, Cond.instanceMethod yJxc12de_init_da8c8, Cond.initialized RJxc12de, Cond.code yJxc12de_init_da8c8 cJxc12de_init_da8c8 1 none, Cond.fieldLink RJxc12de 7 "java/util/AbstractList" "modCount" "I", Cond.methodLink RJxc12de 1 yJxa1e45_init_da8c8, Cond.instanceMethod yJxa1e45_init_da8c8, Cond.initialized RJxa1e45, Cond.code yJxa1e45_init_da8c8 cJxa1e45_init_da8c8 1 none, Cond.methodLink RJxa1e45 1 objectInit, Cond.methodLink RL 12 yX4_init, Cond.instanceMethod yX4_init, Cond.code yX4_init cX4_init 1 none, Cond.methodLink RX4 1 objectInit, Cond.fieldLink RX4 7 "FrontDoorModel" "refusals" "[I", Cond.fieldLink RX4 13 "FrontDoorModel" "limit" "I", Cond.fieldLink RX4 17 "FrontDoorModel" "budget" "I", Cond.fieldLink RX4 20 "FrontDoorModel" "weight" "[I", Cond.fieldLink RX4 23 "FrontDoorModel" "zone" "[I"]
def wsL_law_r3 : List Cond := [Cond.fieldLink RX4 26 "FrontDoorModel" "room" "[I", Cond.fieldLink RX4 29 "FrontDoorModel" "pace" "[I", Cond.fieldLink RX4 32 "FrontDoorModel" "breaks" "[I", Cond.fieldLink RX4 35 "FrontDoorModel" "mute" "[I", Cond.fieldLink RX4 38 "FrontDoorModel" "health" "[I", Cond.fieldLink RX4 41 "FrontDoorModel" "open" "[I", Cond.fieldLink RX4 44 "FrontDoorModel" "asked" "[I", Cond.fieldLink RX4 47 "FrontDoorModel" "answers" "[I", Cond.fieldLink RX4 50 "FrontDoorModel" "failures" "[I", Cond.fieldLink RX4 53 "FrontDoorModel" "row" "[I", Cond.fieldLink RX4 56 "FrontDoorModel" "until" "[I", Cond.fieldLink RX4 59 "FrontDoorModel" "penalty" "[I", Cond.fieldLink RX4 62 "FrontDoorModel" "outs" "[I", Cond.fieldLink RX4 65 "FrontDoorModel" "credit" "[I", Cond.fieldLink RX4 68 "FrontDoorModel" "key" "[I", Cond.fieldLink RX4 71 "FrontDoorModel" "grade" "[I", Cond.fieldLink RX4 74 "FrontDoorModel" "due" "[I", Cond.fieldLink RX4 77 "FrontDoorModel" "state" "[I", Cond.fieldLink RX4 80 "FrontDoorModel" "asks" "[I", Cond.fieldLink RX4 83 "FrontDoorModel" "tried" "[I", Cond.fieldLink RX4 86 "FrontDoorModel" "came" "[I", Cond.fieldLink RX4 89 "FrontDoorModel" "ended" "[I", Cond.fieldLink RX4 92 "FrontDoorModel" "by" "[I", Cond.arrayClass .boolean]
def wsL_law_r4 : List Cond := [Cond.fieldLink RX4 95 "FrontDoorModel" "safe" "[Z", Cond.fieldLink RX4 99 "FrontDoorModel" "at" "[I", Cond.fieldLink RX4 102 "FrontDoorModel" "since" "[I", Cond.fieldLink RX4 105 "FrontDoorModel" "over" "[I", Cond.fieldLink RX4 108 "FrontDoorModel" "fails" "[Z", Cond.fieldLink RX4 111 "FrontDoorModel" "queue" "[I", Cond.methodLink RL 13 yX3_server, Cond.instanceMethod yX3_server, Cond.selects RX3 yX3_server yX3_server, Cond.code yX3_server cX3_server 7 (some .int), Cond.classLink RX3 47 RX2, Cond.instantiable RX2 17, Cond.initialized RX2, Cond.fieldLink RX3 56 "FrontDoor$Server" "number" "I", Cond.methodLink RX3 39 yX3_refuse, Cond.instanceMethod yX3_refuse, Cond.selects RX3 yX3_refuse yX3_refuse, Cond.code yX3_refuse cX3_refuse 3 (some .int), Cond.methodLink RX3 43 yJx4a65c_size_8abf5, Cond.instanceMethod yJx4a65c_size_8abf5, Cond.selects RJx4a65c yJx4a65c_size_8abf5 yJx4a65c_size_8abf5, Cond.code yJx4a65c_size_8abf5 cJx4a65c_size_8abf5 1 (some .int), Cond.fieldLink RJx4a65c 48 "java/util/ArrayList" "size" "I", Cond.methodLink RX3 49 yX2_init]
def wsL_law_r5 : List Cond := [Cond.instanceMethod yX2_init, Cond.code yX2_init cX2_init 7 none, Cond.methodLink RX2 3 objectInit, Cond.fieldLink RX2 9 "FrontDoor$Server" "number" "I", Cond.fieldLink RX2 15 "FrontDoor$Server" "weight" "I", Cond.fieldLink RX2 18 "FrontDoor$Server" "zone" "I", Cond.fieldLink RX2 21 "FrontDoor$Server" "room" "I", Cond.fieldLink RX2 24 "FrontDoor$Server" "pace" "I", Cond.fieldLink RX2 27 "FrontDoor$Server" "breaks" "I", Cond.fieldLink RX2 30 "FrontDoor$Server" "health" "I", Cond.fieldLink RX2 33 "FrontDoor$Server" "penalty" "I", Cond.methodLink RX3 52 yJx4a65c_add_9ea2d, Cond.instanceMethod yJx4a65c_add_9ea2d, Cond.selects RJx4a65c yJx4a65c_add_9ea2d yJx4a65c_add_9ea2d, Cond.code yJx4a65c_add_9ea2d cJx4a65c_add_9ea2d 2 (some .boolean), Cond.fieldLink RJx4a65c 63 "java/util/ArrayList" "modCount" "I", Cond.sameField "java/util/ArrayList" "java/util/AbstractList" "modCount" "I", Cond.methodLink RJx4a65c 131 yJx4a65c_add_72be8, Cond.instanceMethod yJx4a65c_add_72be8, Cond.selects RJx4a65c yJx4a65c_add_72be8 yJx4a65c_add_72be8, Cond.code yJx4a65c_add_72be8 cJx4a65c_add_72be8 4 none, Cond.methodLink RJx4a65c 129 yJx4a65c_grow_d5877, Cond.instanceMethod yJx4a65c_grow_d5877, Cond.selects RJx4a65c yJx4a65c_grow_d5877 yJx4a65c_grow_d5877]
def wsL_law_r6 : List Cond := [Cond.code yJx4a65c_grow_d5877 cJx4a65c_grow_d5877 1 (some (.array (.object "java/lang/Object"))), Cond.methodLink RJx4a65c 69 yJx4a65c_grow_92f84, Cond.instanceMethod yJx4a65c_grow_92f84, Cond.selects RJx4a65c yJx4a65c_grow_92f84 yJx4a65c_grow_92f84, Cond.code yJx4a65c_grow_92f84 cJx4a65c_grow_92f84 4 (some (.array (.object "java/lang/Object"))), Cond.methodLink RJx4a65c 79 Lib.Math.max.name, Cond.static Lib.Math.max.name, Cond.initialized "java/lang/Math", Cond.code Lib.Math.max.name Lib.Math.max.code 2 (some .int), Cond.classLink RJx4a65c 7 "java/lang/Object", Cond.methodLink RJx4a65c 73 yJ8_newLength_cabcc, Cond.static yJ8_newLength_cabcc, Cond.initialized RJ8, Cond.code yJ8_newLength_cabcc cJ8_newLength_cabcc 4 (some .int), Cond.methodLink RJ8 194 Lib.Math.max.name, Cond.constant RJ8 200 (2147483639), Cond.methodLink RJ8 201 yJ8_hugeLength_7cf53, Cond.static yJ8_hugeLength_7cf53, Cond.code yJ8_hugeLength_7cf53 cJ8_hugeLength_7cf53 3 (some .int), Cond.methodLink RJx4a65c 66 yJ7_copyOf_1904c, Cond.static yJ7_copyOf_1904c, Cond.initialized RJ7, Cond.code yJ7_copyOf_1904c cJ7_copyOf_1904c 2 (some (.array (.object "java/lang/Object"))), Cond.methodLink RJ7 86 ⟨"java/lang/Object", "getClass", "()Ljava/lang/Class;"⟩]
def wsL_law_r7 : List Cond := [Cond.selects "[Ljava/lang/Object;" ⟨"java/lang/Object", "getClass", "()Ljava/lang/Class;"⟩ ⟨"java/lang/Object", "getClass", "()Ljava/lang/Class;"⟩, Cond.instanceMethod ⟨"java/lang/Object", "getClass", "()Ljava/lang/Class;"⟩, Cond.native ⟨"java/lang/Object", "getClass", "()Ljava/lang/Class;"⟩, Cond.methodLink RJ7 300 yJ7_copyOf_6403c, Cond.static yJ7_copyOf_6403c, Cond.code yJ7_copyOf_6403c cJ7_copyOf_6403c 4 (some (.array (.object "java/lang/Object"))), Cond.classLink RJ7 110 "[Ljava/lang/Object;", Cond.classLink RJ7 2 "java/lang/Object", Cond.methodLink RJ7 304 Lib.Math.min.name, Cond.static Lib.Math.min.name, Cond.code Lib.Math.min.name Lib.Math.min.code 2 (some .int), Cond.methodLink RJ7 150 arraycopyName, Cond.native arraycopyName, Cond.static arraycopyName, Cond.initialized "java/lang/System", Cond.methodLink RL 17 yX4_server, Cond.instanceMethod yX4_server, Cond.selects RX4 yX4_server yX4_server, Cond.code yX4_server cX4_server 7 (some .int), Cond.fieldLink RX4 114 "FrontDoorModel" "servers" "I", Cond.methodLink RX4 117 yX4_isIn, Cond.static yX4_isIn, Cond.code yX4_isIn cX4_isIn 2 (some .boolean), Cond.methodLink RX4 124 yX4_refuse]
def wsL_law_r8 : List Cond := [Cond.instanceMethod yX4_refuse, Cond.selects RX4 yX4_refuse yX4_refuse, Cond.code yX4_refuse cX4_refuse 2 (some .int), Cond.methodLink RL 18 yX3_set, Cond.instanceMethod yX3_set, Cond.selects RX3 yX3_set yX3_set, Cond.code yX3_set cX3_set 6 (some .int), Cond.fieldLink RX3 63 "FrontDoor$Server" "health" "I", Cond.methodLink RX3 59 yX3_serverAt, Cond.instanceMethod yX3_serverAt, Cond.selects RX3 yX3_serverAt yX3_serverAt, Cond.code yX3_serverAt cX3_serverAt 2 (some (.object "FrontDoor$Server")), Cond.classLink RX3 47 "FrontDoor$Server", Cond.methodLink RX3 151 yJx4a65c_get_915e3, Cond.instanceMethod yJx4a65c_get_915e3, Cond.selects RJx4a65c yJx4a65c_get_915e3 yJx4a65c_get_915e3, Cond.code yJx4a65c_get_915e3 cJx4a65c_get_915e3 2 (some (.object "java/lang/Object")), Cond.methodLink RJx4a65c 118 yJ15_checkIndex_7cf53, Cond.static yJ15_checkIndex_7cf53, Cond.initialized RJ15, Cond.code yJ15_checkIndex_7cf53 cJ15_checkIndex_7cf53 2 (some .int), Cond.methodLink RJ15 105 yJ3_checkIndex_8e157, Cond.static yJ3_checkIndex_8e157, Cond.initialized RJ3]
def wsL_law_r9 : List Cond := [Cond.code yJ3_checkIndex_8e157 cJ3_checkIndex_8e157 3 (some .int), Cond.methodLink RJx4a65c 123 yJx4a65c_elementData_915e3, Cond.instanceMethod yJx4a65c_elementData_915e3, Cond.selects RJx4a65c yJx4a65c_elementData_915e3 yJx4a65c_elementData_915e3, Cond.code yJx4a65c_elementData_915e3 cJx4a65c_elementData_915e3 2 (some (.object "java/lang/Object")), Cond.methodLink RX3 66 yX3_leastOf, Cond.static yX3_leastOf, Cond.code yX3_leastOf cX3_leastOf 1 (some .int), Cond.methodLink RX3 69 yX3_greatestOf, Cond.static yX3_greatestOf, Cond.code yX3_greatestOf cX3_greatestOf 1 (some .int), Cond.methodLink RX3 72 yX3_faultOf, Cond.static yX3_faultOf, Cond.code yX3_faultOf cX3_faultOf 3 (some .int), Cond.methodLink RX3 76 yX2_change, Cond.instanceMethod yX2_change, Cond.selects RX2 yX2_change yX2_change, Cond.code yX2_change cX2_change 4 (some .int), Cond.fieldLink RX2 54 "FrontDoor$Server" "mute" "I", Cond.methodLink RX2 74 yX2_tell, Cond.instanceMethod yX2_tell, Cond.selects RX2 yX2_tell yX2_tell, Cond.code yX2_tell cX2_tell 2 (some .int), Cond.fieldLink RX2 36 "FrontDoor$Server" "open" "I"]
def wsL_law_r10 : List Cond := [Cond.fieldLink RX2 51 "FrontDoor$Server" "asked" "I", Cond.fieldLink RX2 62 "FrontDoor$Server" "answers" "I", Cond.fieldLink RX2 77 "FrontDoor$Server" "failures" "I", Cond.fieldLink RX2 65 "FrontDoor$Server" "row" "I", Cond.fieldLink RX2 68 "FrontDoor$Server" "until" "I", Cond.fieldLink RX2 71 "FrontDoor$Server" "outs" "I", Cond.fieldLink RX2 80 "FrontDoor$Server" "credit" "I", Cond.constant RX2 83 (1000000000), Cond.methodLink RL 22 yX4_set, Cond.instanceMethod yX4_set, Cond.selects RX4 yX4_set yX4_set, Cond.code yX4_set cX4_set 5 (some .int), Cond.methodLink RX4 128 yX4_isServer, Cond.instanceMethod yX4_isServer, Cond.selects RX4 yX4_isServer yX4_isServer, Cond.code yX4_isServer cX4_isServer 2 (some .boolean), Cond.methodLink RX4 132 yX4_serverOf, Cond.instanceMethod yX4_serverOf, Cond.selects RX4 yX4_serverOf yX4_serverOf, Cond.code yX4_serverOf cX4_serverOf 3 (some .int), Cond.constant RX4 234 (1000000000), Cond.methodLink RL 23 yX3_drain, Cond.instanceMethod yX3_drain, Cond.selects RX3 yX3_drain yX3_drain]
def wsL_law_r11 : List Cond := [Cond.code yX3_drain cX3_drain 3 (some .int), Cond.fieldLink RX3 80 "FrontDoor$Server" "open" "I", Cond.methodLink RL 27 yX4_drain, Cond.instanceMethod yX4_drain, Cond.selects RX4 yX4_drain yX4_drain, Cond.code yX4_drain cX4_drain 2 (some .int), Cond.methodLink RL 28 yX3_back, Cond.instanceMethod yX3_back, Cond.selects RX3 yX3_back yX3_back, Cond.code yX3_back cX3_back 3 (some .int), Cond.fieldLink RX3 83 "FrontDoor$Server" "row" "I", Cond.fieldLink RX3 86 "FrontDoor$Server" "penalty" "I", Cond.methodLink RL 31 yX4_back, Cond.instanceMethod yX4_back, Cond.selects RX4 yX4_back yX4_back, Cond.code yX4_back cX4_back 2 (some .int), Cond.methodLink RL 32 yX3_rule, Cond.instanceMethod yX3_rule, Cond.selects RX3 yX3_rule yX3_rule, Cond.code yX3_rule cX3_rule 3 (some .int), Cond.methodLink RL 35 yX4_rule, Cond.instanceMethod yX4_rule, Cond.selects RX4 yX4_rule yX4_rule, Cond.code yX4_rule cX4_rule 3 (some .int)]
def wsL_law_r12 : List Cond := [Cond.fieldLink RX4 136 "FrontDoorModel" "rule" "I", Cond.methodLink RL 36 yX3_limit, Cond.instanceMethod yX3_limit, Cond.selects RX3 yX3_limit yX3_limit, Cond.code yX3_limit cX3_limit 4 (some .int), Cond.methodLink RL 39 yX4_limit, Cond.instanceMethod yX4_limit, Cond.selects RX4 yX4_limit yX4_limit, Cond.code yX4_limit cX4_limit 3 (some .int), Cond.methodLink RL 40 yX3_budget, Cond.instanceMethod yX3_budget, Cond.selects RX3 yX3_budget yX3_budget, Cond.code yX3_budget cX3_budget 4 (some .int), Cond.methodLink RL 43 yX4_budget, Cond.instanceMethod yX4_budget, Cond.selects RX4 yX4_budget yX4_budget, Cond.code yX4_budget cX4_budget 3 (some .int), Cond.methodLink RL 44 yX3_hedge, Cond.instanceMethod yX3_hedge, Cond.selects RX3 yX3_hedge yX3_hedge, Cond.code yX3_hedge cX3_hedge 4 (some .int), Cond.fieldLink RX3 89 "FrontDoor" "hedgeNow" "I", Cond.methodLink RL 47 yX4_hedge, Cond.instanceMethod yX4_hedge]
def wsL_law_r13 : List Cond := [Cond.selects RX4 yX4_hedge yX4_hedge, Cond.code yX4_hedge cX4_hedge 3 (some .int), Cond.fieldLink RX4 139 "FrontDoorModel" "hedge" "I", Cond.methodLink RL 48 yX3_call, Cond.instanceMethod yX3_call, Cond.selects RX3 yX3_call yX3_call, Cond.code yX3_call cX3_call 6 (some .int), Cond.constant RX3 92 (65535), Cond.classLink RX3 93 RX1, Cond.instantiable RX1 12, Cond.initialized RX1, Cond.fieldLink RX3 95 "FrontDoor" "tick" "I", Cond.fieldLink RX3 109 "FrontDoor$Call" "number" "I", Cond.methodLink RX3 98 yX1_init, Cond.instanceMethod yX1_init, Cond.code yX1_init cX1_init 7 none, Cond.methodLink RX1 3 objectInit, Cond.fieldLink RX1 9 "FrontDoor$Call" "number" "I", Cond.fieldLink RX1 15 "FrontDoor$Call" "key" "I", Cond.fieldLink RX1 18 "FrontDoor$Call" "grade" "I", Cond.fieldLink RX1 21 "FrontDoor$Call" "came" "I", Cond.fieldLink RX1 24 "FrontDoor$Call" "due" "I", Cond.fieldLink RX1 27 "FrontDoor$Call" "safe" "Z", Cond.fieldLink RX1 31 "FrontDoor$Call" "state" "I"]
def wsL_law_r14 : List Cond := [Cond.fieldLink RX1 34 "FrontDoor$Call" "ended" "I", Cond.fieldLink RX1 37 "FrontDoor$Call" "answerer" "I", Cond.methodLink RX3 101 yX3_askByRule, Cond.instanceMethod yX3_askByRule, Cond.selects RX3 yX3_askByRule yX3_askByRule, Cond.code yX3_askByRule cX3_askByRule 3 (some .boolean), Cond.fieldLink RX3 199 "FrontDoor$Call" "key" "I", Cond.fieldLink RX3 202 "FrontDoor$Call" "tried" "I", Cond.methodLink RX3 140 yX3_chosen, Cond.instanceMethod yX3_chosen, Cond.selects RX3 yX3_chosen yX3_chosen, Cond.code yX3_chosen cX3_chosen 4 (some (.object "FrontDoor$Server")), Cond.methodLink RX3 173 yX3_byTurn, Cond.instanceMethod yX3_byTurn, Cond.selects RX3 yX3_byTurn yX3_byTurn, Cond.code yX3_byTurn cX3_byTurn 5 (some (.object "FrontDoor$Server")), Cond.fieldLink RX3 186 "FrontDoor$Server" "credit" "I", Cond.fieldLink RX3 189 "FrontDoor$Server" "weight" "I", Cond.methodLink RX3 182 yX2_mayBeAsked, Cond.instanceMethod yX2_mayBeAsked, Cond.selects RX2 yX2_mayBeAsked yX2_mayBeAsked, Cond.code yX2_mayBeAsked cX2_mayBeAsked 2 (some .boolean), Cond.methodLink RX3 176 yX3_byRing, Cond.instanceMethod yX3_byRing]
def wsL_law_r15 : List Cond := [Cond.selects RX3 yX3_byRing yX3_byRing, Cond.code yX3_byRing cX3_byRing 7 (some (.object "FrontDoor$Server")), Cond.constant RX3 195 (65536), Cond.methodLink RX3 196 yX2_wayFrom, Cond.instanceMethod yX2_wayFrom, Cond.selects RX2 yX2_wayFrom yX2_wayFrom, Cond.code yX2_wayFrom cX2_wayFrom 4 (some .int), Cond.constant RX2 40 (65535), Cond.methodLink RX2 45 Lib.Math.min.name, Cond.methodLink RX2 41 yX2_placeOfMark, Cond.instanceMethod yX2_placeOfMark, Cond.selects RX2 yX2_placeOfMark yX2_placeOfMark, Cond.code yX2_placeOfMark cX2_placeOfMark 2 (some .int), Cond.constant RX2 39 (40503), Cond.methodLink RX3 179 yX3_byFewest, Cond.instanceMethod yX3_byFewest, Cond.selects RX3 yX3_byFewest yX3_byFewest, Cond.code yX3_byFewest cX3_byFewest 7 (some (.object "FrontDoor$Server")), Cond.fieldLink RX3 192 "FrontDoor$Server" "zone" "I", Cond.methodLink RX3 205 yX3_settleCredits, Cond.instanceMethod yX3_settleCredits, Cond.selects RX3 yX3_settleCredits yX3_settleCredits, Cond.code yX3_settleCredits cX3_settleCredits 6 none, Cond.methodLink RX3 209 yX2_takeAsking]
def wsL_law_r16 : List Cond := [Cond.instanceMethod yX2_takeAsking, Cond.selects RX2 yX2_takeAsking yX2_takeAsking, Cond.code yX2_takeAsking cX2_takeAsking 4 (some (.object "FrontDoor$Asking")), Cond.classLink RX2 57 RX0, Cond.instantiable RX0 4, Cond.initialized RX0, Cond.methodLink RX2 59 yX0_init, Cond.instanceMethod yX0_init, Cond.code yX0_init cX0_init 5 none, Cond.methodLink RX0 1 objectInit, Cond.fieldLink RX0 7 "FrontDoor$Asking" "server" "LFrontDoor$Server;", Cond.fieldLink RX0 13 "FrontDoor$Asking" "since" "I", Cond.fieldLink RX0 17 "FrontDoor$Asking" "over" "I", Cond.fieldLink RX0 20 "FrontDoor$Asking" "fails" "Z", Cond.methodLink RX3 213 yX1_begin, Cond.instanceMethod yX1_begin, Cond.selects RX1 yX1_begin yX1_begin, Cond.code yX1_begin cX1_begin 2 none, Cond.fieldLink RX1 40 "FrontDoor$Call" "first" "LFrontDoor$Asking;", Cond.fieldLink RX1 44 "FrontDoor$Call" "second" "LFrontDoor$Asking;", Cond.fieldLink RX1 47 "FrontDoor$Call" "tried" "I", Cond.fieldLink RX1 50 "FrontDoor$Asking" "server" "LFrontDoor$Server;", Cond.fieldLink RX1 56 "FrontDoor$Server" "number" "I", Cond.methodLink RX3 105 yX3_joinLine]
def wsL_law_r17 : List Cond := [Cond.instanceMethod yX3_joinLine, Cond.selects RX3 yX3_joinLine yX3_joinLine, Cond.code yX3_joinLine cX3_joinLine 3 none, Cond.fieldLink RX3 118 "FrontDoor$Call" "state" "I", Cond.classLink RX3 93 "FrontDoor$Call", Cond.methodLink RX3 217 yX1_goesAheadOf, Cond.instanceMethod yX1_goesAheadOf, Cond.selects RX1 yX1_goesAheadOf yX1_goesAheadOf, Cond.code yX1_goesAheadOf cX1_goesAheadOf 2 (some .boolean), Cond.methodLink RX3 220 yJx4a65c_add_7a177, Cond.instanceMethod yJx4a65c_add_7a177, Cond.selects RJx4a65c yJx4a65c_add_7a177 yJx4a65c_add_7a177, Cond.code yJx4a65c_add_7a177 cJx4a65c_add_7a177 5 none, Cond.methodLink RJx4a65c 112 arraycopyName, Cond.methodLink RJx4a65c 135 yJx4a65c_rangeCheckForAdd_d00df, Cond.instanceMethod yJx4a65c_rangeCheckForAdd_d00df, Cond.selects RJx4a65c yJx4a65c_rangeCheckForAdd_d00df yJx4a65c_rangeCheckForAdd_d00df, Cond.code yJx4a65c_rangeCheckForAdd_d00df cJx4a65c_rangeCheckForAdd_d00df 2 none, Cond.methodLink RL 52 yX4_call, Cond.instanceMethod yX4_call, Cond.selects RX4 yX4_call yX4_call, Cond.code yX4_call cX4_call 7 (some .int), Cond.constant RX4 143 (65536), Cond.fieldLink RX4 121 "FrontDoorModel" "calls" "I"]
def wsL_law_r18 : List Cond := [Cond.fieldLink RX4 163 "FrontDoorModel" "tick" "I", Cond.methodLink RX4 178 yX4_asksFor, Cond.instanceMethod yX4_asksFor, Cond.selects RX4 yX4_asksFor yX4_asksFor, Cond.code yX4_asksFor cX4_asksFor 3 (some .boolean), Cond.methodLink RX4 167 yX4_mays, Cond.instanceMethod yX4_mays, Cond.selects RX4 yX4_mays yX4_mays, Cond.code yX4_mays cX4_mays 4 (some .int), Cond.methodLink RX4 170 yX4_picked, Cond.instanceMethod yX4_picked, Cond.selects RX4 yX4_picked yX4_picked, Cond.code yX4_picked cX4_picked 4 (some .int), Cond.methodLink RX4 150 yX4_byTurns, Cond.instanceMethod yX4_byTurns, Cond.selects RX4 yX4_byTurns yX4_byTurns, Cond.code yX4_byTurns cX4_byTurns 6 (some .int), Cond.methodLink RX4 147 yX4_fewest, Cond.instanceMethod yX4_fewest, Cond.selects RX4 yX4_fewest yX4_fewest, Cond.code yX4_fewest cX4_fewest 4 (some .int), Cond.methodLink RX4 154 yX4_onRing, Cond.instanceMethod yX4_onRing, Cond.selects RX4 yX4_onRing yX4_onRing]
def wsL_law_r19 : List Cond := [Cond.code yX4_onRing cX4_onRing 8 (some .int), Cond.methodLink RX4 144 yX4_markOf, Cond.static yX4_markOf, Cond.code yX4_markOf cX4_markOf 2 (some .int), Cond.constant RX4 142 (40503), Cond.methodLink RX4 157 yX4_near, Cond.instanceMethod yX4_near, Cond.selects RX4 yX4_near yX4_near, Cond.code yX4_near cX4_near 5 (some .int), Cond.methodLink RX4 174 yX4_ask, Cond.instanceMethod yX4_ask, Cond.selects RX4 yX4_ask yX4_ask, Cond.code yX4_ask cX4_ask 4 none, Cond.fieldLink RX4 160 "FrontDoorModel" "askings" "I", Cond.constant RX4 166 (1000000), Cond.methodLink RL 53 yX3_off, Cond.instanceMethod yX3_off, Cond.selects RX3 yX3_off yX3_off, Cond.code yX3_off cX3_off 3 (some .int), Cond.methodLink RX3 110 yX3_callAt, Cond.instanceMethod yX3_callAt, Cond.selects RX3 yX3_callAt yX3_callAt, Cond.code yX3_callAt cX3_callAt 2 (some (.object "FrontDoor$Call")), Cond.methodLink RX3 114 yX1_hasEnded]
def wsL_law_r20 : List Cond := [Cond.instanceMethod yX1_hasEnded, Cond.selects RX1 yX1_hasEnded yX1_hasEnded, Cond.code yX1_hasEnded cX1_hasEnded 1 (some .boolean), Cond.methodLink RX3 121 yX3_leaveLine, Cond.instanceMethod yX3_leaveLine, Cond.selects RX3 yX3_leaveLine yX3_leaveLine, Cond.code yX3_leaveLine cX3_leaveLine 3 none, Cond.methodLink RX3 223 yJx4a65c_remove_915e3, Cond.instanceMethod yJx4a65c_remove_915e3, Cond.selects RJx4a65c yJx4a65c_remove_915e3 yJx4a65c_remove_915e3, Cond.code yJx4a65c_remove_915e3 cJx4a65c_remove_915e3 4 (some (.object "java/lang/Object")), Cond.methodLink RJx4a65c 144 yJx4a65c_fastRemove_b59b0, Cond.instanceMethod yJx4a65c_fastRemove_b59b0, Cond.selects RJx4a65c yJx4a65c_fastRemove_b59b0 yJx4a65c_fastRemove_b59b0, Cond.code yJx4a65c_fastRemove_b59b0 cJx4a65c_fastRemove_b59b0 4 none, Cond.methodLink RX3 124 yX1_callOffAll, Cond.instanceMethod yX1_callOffAll, Cond.selects RX1 yX1_callOffAll yX1_callOffAll, Cond.code yX1_callOffAll cX1_callOffAll 1 none, Cond.methodLink RX1 62 yX1_letGo, Cond.instanceMethod yX1_letGo, Cond.selects RX1 yX1_letGo yX1_letGo, Cond.code yX1_letGo cX1_letGo 2 none, Cond.fieldLink RX1 59 "FrontDoor$Server" "open" "I"]
def wsL_law_r21 : List Cond := [Cond.methodLink RX3 127 yX3_end, Cond.instanceMethod yX3_end, Cond.selects RX3 yX3_end yX3_end, Cond.code yX3_end cX3_end 3 none, Cond.fieldLink RX3 226 "FrontDoor$Call" "ended" "I", Cond.fieldLink RX3 134 "FrontDoor" "endedSoFar" "I", Cond.methodLink RX3 131 yX3_dropEnded, Cond.instanceMethod yX3_dropEnded, Cond.selects RX3 yX3_dropEnded yX3_dropEnded, Cond.code yX3_dropEnded cX3_dropEnded 2 none, Cond.methodLink RL 56 yX4_off, Cond.instanceMethod yX4_off, Cond.selects RX4 yX4_off yX4_off, Cond.code yX4_off cX4_off 2 (some .int), Cond.methodLink RX4 193 yX4_isCall, Cond.instanceMethod yX4_isCall, Cond.selects RX4 yX4_isCall yX4_isCall, Cond.code yX4_isCall cX4_isCall 2 (some .boolean), Cond.methodLink RX4 196 yX4_ends, Cond.instanceMethod yX4_ends, Cond.selects RX4 yX4_ends yX4_ends, Cond.code yX4_ends cX4_ends 3 none, Cond.methodLink RX4 190 yX4_takes, Cond.instanceMethod yX4_takes]
def wsL_law_r22 : List Cond := [Cond.selects RX4 yX4_takes yX4_takes, Cond.code yX4_takes cX4_takes 4 none, Cond.methodLink RL 57 yX3_ticks, Cond.instanceMethod yX3_ticks, Cond.selects RX3 yX3_ticks yX3_ticks, Cond.code yX3_ticks cX3_ticks 5 (some .int), Cond.methodLink RX3 137 yX3_passTick, Cond.instanceMethod yX3_passTick, Cond.selects RX3 yX3_passTick yX3_passTick, Cond.code yX3_passTick cX3_passTick 1 none, Cond.methodLink RX3 229 yX3_takeWhatIsOver, Cond.instanceMethod yX3_takeWhatIsOver, Cond.selects RX3 yX3_takeWhatIsOver yX3_takeWhatIsOver, Cond.code yX3_takeWhatIsOver cX3_takeWhatIsOver 5 none, Cond.fieldLink RX3 247 "FrontDoor$Call" "first" "LFrontDoor$Asking;", Cond.fieldLink RX3 251 "FrontDoor$Call" "second" "LFrontDoor$Asking;", Cond.fieldLink RX3 254 "FrontDoor$Asking" "over" "I", Cond.methodLink RX3 259 yX3_takeAnswer, Cond.instanceMethod yX3_takeAnswer, Cond.selects RX3 yX3_takeAnswer yX3_takeAnswer, Cond.code yX3_takeAnswer cX3_takeAnswer 3 none, Cond.fieldLink RX3 263 "FrontDoor$Asking" "fails" "Z", Cond.fieldLink RX3 267 "FrontDoor$Asking" "server" "LFrontDoor$Server;", Cond.fieldLink RX3 274 "FrontDoor$Call" "answerer" "I"]
def wsL_law_r23 : List Cond := [Cond.fieldLink RX3 284 "FrontDoor$Call" "safe" "Z", Cond.fieldLink RX3 287 "FrontDoor$Call" "due" "I", Cond.fieldLink RX3 164 "FrontDoor" "agains" "I", Cond.methodLink RX3 271 yX2_answer, Cond.instanceMethod yX2_answer, Cond.selects RX2 yX2_answer yX2_answer, Cond.code yX2_answer cX2_answer 1 none, Cond.methodLink RX3 277 yX1_letGo, Cond.methodLink RX3 280 yX3_failureOf, Cond.instanceMethod yX3_failureOf, Cond.selects RX3 yX3_failureOf yX3_failureOf, Cond.code yX3_failureOf cX3_failureOf 2 none, Cond.fieldLink RX3 293 "FrontDoor$Server" "failures" "I", Cond.methodLink RX3 296 yX3_oneMoreOutIsTooMany, Cond.instanceMethod yX3_oneMoreOutIsTooMany, Cond.selects RX3 yX3_oneMoreOutIsTooMany yX3_oneMoreOutIsTooMany, Cond.code yX3_oneMoreOutIsTooMany cX3_oneMoreOutIsTooMany 5 (some .boolean), Cond.methodLink RX3 299 yX2_goOut, Cond.instanceMethod yX2_goOut, Cond.selects RX2 yX2_goOut yX2_goOut, Cond.code yX2_goOut cX2_goOut 2 none, Cond.methodLink RX3 290 yX3_budgetHolds, Cond.instanceMethod yX3_budgetHolds, Cond.selects RX3 yX3_budgetHolds yX3_budgetHolds]
def wsL_law_r24 : List Cond := [Cond.code yX3_budgetHolds cX3_budgetHolds 1 (some .boolean), Cond.methodLink RX3 232 yX3_meetDues, Cond.instanceMethod yX3_meetDues, Cond.selects RX3 yX3_meetDues yX3_meetDues, Cond.code yX3_meetDues cX3_meetDues 3 none, Cond.methodLink RX3 303 yX3_failByDue, Cond.instanceMethod yX3_failByDue, Cond.selects RX3 yX3_failByDue yX3_failByDue, Cond.code yX3_failByDue cX3_failByDue 4 none, Cond.methodLink RX3 235 yX3_tryThoseOut, Cond.instanceMethod yX3_tryThoseOut, Cond.selects RX3 yX3_tryThoseOut yX3_tryThoseOut, Cond.code yX3_tryThoseOut cX3_tryThoseOut 3 none, Cond.fieldLink RX3 306 "FrontDoor$Server" "until" "I", Cond.methodLink RX3 238 yX3_hedgeSlow, Cond.instanceMethod yX3_hedgeSlow, Cond.selects RX3 yX3_hedgeSlow yX3_hedgeSlow, Cond.code yX3_hedgeSlow cX3_hedgeSlow 5 none, Cond.fieldLink RX3 309 "FrontDoor$Asking" "since" "I", Cond.fieldLink RX3 167 "FrontDoor" "seconds" "I", Cond.methodLink RX3 241 yX3_askQueued, Cond.instanceMethod yX3_askQueued, Cond.selects RX3 yX3_askQueued yX3_askQueued, Cond.code yX3_askQueued cX3_askQueued 4 none]
def wsL_law_r25 : List Cond := [Cond.methodLink RX3 244 yX3_letDrainedGo, Cond.instanceMethod yX3_letDrainedGo, Cond.selects RX3 yX3_letDrainedGo yX3_letDrainedGo, Cond.code yX3_letDrainedGo cX3_letDrainedGo 3 none, Cond.methodLink RL 60 yX4_ticks, Cond.instanceMethod yX4_ticks, Cond.selects RX4 yX4_ticks yX4_ticks, Cond.code yX4_ticks cX4_ticks 4 (some .int), Cond.methodLink RX4 230 yX4_goesOn, Cond.instanceMethod yX4_goesOn, Cond.selects RX4 yX4_goesOn yX4_goesOn, Cond.code yX4_goesOn cX4_goesOn 4 (some .int), Cond.fieldLink RX4 212 "FrontDoorModel" "queued" "I", Cond.methodLink RX4 218 yX4_comesBack, Cond.instanceMethod yX4_comesBack, Cond.selects RX4 yX4_comesBack yX4_comesBack, Cond.code yX4_comesBack cX4_comesBack 5 (some .boolean), Cond.fieldLink RX4 206 "FrontDoorModel" "agains" "I", Cond.methodLink RX4 199 yX4_answer, Cond.instanceMethod yX4_answer, Cond.selects RX4 yX4_answer yX4_answer, Cond.code yX4_answer cX4_answer 2 none, Cond.methodLink RX4 203 yX4_failure, Cond.instanceMethod yX4_failure]
def wsL_law_r26 : List Cond := [Cond.selects RX4 yX4_failure yX4_failure, Cond.code yX4_failure cX4_failure 3 none, Cond.methodLink RX4 185 Lib.Math.min.name, Cond.methodLink RX4 181 yX4_outsNow, Cond.instanceMethod yX4_outsNow, Cond.selects RX4 yX4_outsNow yX4_outsNow, Cond.code yX4_outsNow cX4_outsNow 4 (some .int), Cond.methodLink RX4 221 yX4_isDue, Cond.instanceMethod yX4_isDue, Cond.selects RX4 yX4_isDue yX4_isDue, Cond.code yX4_isDue cX4_isDue 4 (some .boolean), Cond.methodLink RX4 224 yX4_hedges, Cond.instanceMethod yX4_hedges, Cond.selects RX4 yX4_hedges yX4_hedges, Cond.code yX4_hedges cX4_hedges 3 none, Cond.fieldLink RX4 209 "FrontDoorModel" "seconds" "I", Cond.methodLink RX4 227 yX4_line, Cond.instanceMethod yX4_line, Cond.selects RX4 yX4_line yX4_line, Cond.code yX4_line cX4_line 3 none, Cond.methodLink RX4 215 yX4_isAhead, Cond.instanceMethod yX4_isAhead, Cond.selects RX4 yX4_isAhead yX4_isAhead, Cond.code yX4_isAhead cX4_isAhead 3 (some .boolean)]
def wsL_law_r27 : List Cond := [Cond.methodLink RL 61 yX3_pick, Cond.instanceMethod yX3_pick, Cond.selects RX3 yX3_pick yX3_pick, Cond.code yX3_pick cX3_pick 4 (some .int), Cond.methodLink RL 64 yX4_pick, Cond.instanceMethod yX4_pick, Cond.selects RX4 yX4_pick yX4_pick, Cond.code yX4_pick cX4_pick 3 (some .int), Cond.methodLink RL 65 yX3_callOf, Cond.instanceMethod yX3_callOf, Cond.selects RX3 yX3_callOf yX3_callOf, Cond.code yX3_callOf cX3_callOf 4 (some .int), Cond.methodLink RX3 144 yX1_tell, Cond.instanceMethod yX1_tell, Cond.selects RX1 yX1_tell yX1_tell, Cond.code yX1_tell cX1_tell 2 (some .int), Cond.methodLink RL 69 yX4_callOf, Cond.instanceMethod yX4_callOf, Cond.selects RX4 yX4_callOf yX4_callOf, Cond.code yX4_callOf cX4_callOf 3 (some .int), Cond.methodLink RL 70 yX3_serverOf, Cond.instanceMethod yX3_serverOf, Cond.selects RX3 yX3_serverOf yX3_serverOf, Cond.code yX3_serverOf cX3_serverOf 4 (some .int)]
def wsL_law_r28 : List Cond := [Cond.methodLink RX3 147 yX2_tell, Cond.methodLink RL 73 yX4_serverOf, Cond.methodLink RL 74 yX3_mark, Cond.instanceMethod yX3_mark, Cond.selects RX3 yX3_mark yX3_mark, Cond.code yX3_mark cX3_mark 4 (some .int), Cond.methodLink RX3 148 yX2_placeOfMark, Cond.methodLink RL 77 yX4_mark, Cond.instanceMethod yX4_mark, Cond.selects RX4 yX4_mark yX4_mark, Cond.code yX4_mark cX4_mark 3 (some .int), Cond.methodLink RL 78 yX3_queue, Cond.instanceMethod yX3_queue, Cond.selects RX3 yX3_queue yX3_queue, Cond.code yX3_queue cX3_queue 2 (some .int), Cond.methodLink RL 81 yX4_queue, Cond.instanceMethod yX4_queue, Cond.selects RX4 yX4_queue yX4_queue, Cond.code yX4_queue cX4_queue 2 (some .int), Cond.methodLink RL 82 yX3_share, Cond.instanceMethod yX3_share, Cond.selects RX3 yX3_share yX3_share, Cond.code yX3_share cX3_share 4 (some .int), Cond.fieldLink RX3 158 "FrontDoor$Server" "asked" "I"]
def wsL_law_r29 : List Cond := [Cond.methodLink RX3 155 yX3_askingsSoFar, Cond.instanceMethod yX3_askingsSoFar, Cond.selects RX3 yX3_askingsSoFar yX3_askingsSoFar, Cond.code yX3_askingsSoFar cX3_askingsSoFar 3 (some .int), Cond.methodLink RL 85 yX4_share, Cond.instanceMethod yX4_share, Cond.selects RX4 yX4_share yX4_share, Cond.code yX4_share cX4_share 2 (some .int), Cond.methodLink RL 86 yX3_count, Cond.instanceMethod yX3_count, Cond.selects RX3 yX3_count yX3_count, Cond.code yX3_count cX3_count 2 (some .int), Cond.methodLink RX3 161 yX3_callsThatAre, Cond.instanceMethod yX3_callsThatAre, Cond.selects RX3 yX3_callsThatAre yX3_callsThatAre, Cond.code yX3_callsThatAre cX3_callsThatAre 4 (some .int), Cond.methodLink RX3 170 yX3_openAskings, Cond.instanceMethod yX3_openAskings, Cond.selects RX3 yX3_openAskings yX3_openAskings, Cond.code yX3_openAskings cX3_openAskings 3 (some .int), Cond.methodLink RL 89 yX4_count, Cond.instanceMethod yX4_count, Cond.selects RX4 yX4_count yX4_count, Cond.code yX4_count cX4_count 4 (some .int)]
def wsL_law_r30 : List Cond := [Cond.methodLink RX4 235 yX4_inState, Cond.instanceMethod yX4_inState, Cond.selects RX4 yX4_inState yX4_inState, Cond.code yX4_inState cX4_inState 4 (some .int)]
def wsL_law : List Cond := (wsL_law_r1 ++ (wsL_law_r2 ++ (wsL_law_r3 ++ (wsL_law_r4 ++ (wsL_law_r5 ++ (wsL_law_r6 ++ (wsL_law_r7 ++ (wsL_law_r8 ++ (wsL_law_r9 ++ (wsL_law_r10 ++ (wsL_law_r11 ++ (wsL_law_r12 ++ (wsL_law_r13 ++ (wsL_law_r14 ++ (wsL_law_r15 ++ (wsL_law_r16 ++ (wsL_law_r17 ++ (wsL_law_r18 ++ (wsL_law_r19 ++ (wsL_law_r20 ++ (wsL_law_r21 ++ (wsL_law_r22 ++ (wsL_law_r23 ++ (wsL_law_r24 ++ (wsL_law_r25 ++ (wsL_law_r26 ++ (wsL_law_r27 ++ (wsL_law_r28 ++ (wsL_law_r29 ++ wsL_law_r30))))))))))))))))))))))))))))) ++ wsX30 ++ wsX40 ++ wsJx4a65c0 ++ wsX20 ++ wsX10 ++ wsX00 ++ ([] : List Cond)
end
section
theorem pz_pl {big : List Cond} (ws : List Cond) (ps : List Nat) (hp : ws = ps.filterMap (fun i => big[i]?)) : ∀ w ∈ ws, w ∈ big := by
  intro w hw
  rw [hp] at hw
  obtain ⟨i, -, hi⟩ := List.mem_filterMap.mp hw
  exact List.mem_of_getElem? hi
theorem pz_ap {big a b : List Cond} (ha : ∀ w ∈ a, w ∈ big) (hb : ∀ w ∈ b, w ∈ big) : ∀ w ∈ a ++ b, w ∈ big := fun w h => (List.mem_append.mp h).elim (ha w) (hb w)
set_option maxRecDepth 20000 in
theorem in_wsL_law_r1 : ∀ w ∈ wsL_law_r1, w ∈ lw_tbl := pz_pl _ [71, 72, 57, 640, 641, 61, 73, 74, 75, 76, 77, 78, 79, 80, 60, 105, 106, 107, 108, 145, 109, 111, 112, 113] (by decide +kernel)
set_option maxRecDepth 20000 in
theorem in_wsL_law_r2 : ∀ w ∈ wsL_law_r2, w ∈ lw_tbl := pz_pl _ [81, 82, 83, 91, 93, 84, 85, 59, 86, 95, 87, 88, 58, 89, 90, 642, 643, 644, 645, 646, 651, 652, 657, 658] (by decide +kernel)
set_option maxRecDepth 20000 in
theorem in_wsL_law_r3 : ∀ w ∈ wsL_law_r3, w ∈ lw_tbl := pz_pl _ [659, 660, 661, 662, 663, 664, 665, 666, 667, 668, 669, 670, 671, 672, 673, 674, 675, 676, 677, 678, 679, 680, 681, 776] (by decide +kernel)
set_option maxRecDepth 20000 in
theorem in_wsL_law_r4 : ∀ w ∈ wsL_law_r4, w ∈ lw_tbl := pz_pl _ [682, 683, 684, 685, 686, 687, 146, 147, 148, 149, 158, 159, 62, 165, 150, 152, 0, 153, 154, 155, 156, 157, 94, 160] (by decide +kernel)
set_option maxRecDepth 20000 in
theorem in_wsL_law_r5 : ∀ w ∈ wsL_law_r5, w ∈ lw_tbl := pz_pl _ [161, 162, 163, 164, 169, 167, 171, 172, 173, 175, 189, 229, 230, 231, 232, 96, 97, 233, 235, 1, 236, 237, 239, 2] (by decide +kernel)
set_option maxRecDepth 20000 in
theorem in_wsL_law_r6 : ∀ w ∈ wsL_law_r6, w ∈ lw_tbl := pz_pl _ [240, 241, 243, 3, 244, 280, 249, 64, 250, 281, 245, 246, 63, 247, 248, 251, 252, 253, 254, 255, 256, 65, 257, 258] (by decide +kernel)
set_option maxRecDepth 20000 in
theorem in_wsL_law_r7 : ∀ w ∈ wsL_law_r7, w ∈ lw_tbl := pz_pl _ [960, 259, 267, 268, 269, 270, 271, 273, 274, 275, 276, 277, 279, 278, 66, 777, 778, 779, 780, 648, 781, 782, 783, 784] (by decide +kernel)
set_option maxRecDepth 20000 in
theorem in_wsL_law_r8 : ∀ w ∈ wsL_law_r8, w ∈ lw_tbl := pz_pl _ [786, 33, 787, 282, 283, 284, 285, 176, 286, 288, 4, 289, 158, 290, 291, 292, 293, 294, 295, 67, 296, 297, 298, 68] (by decide +kernel)
set_option maxRecDepth 20000 in
theorem in_wsL_law_r9 : ∀ w ∈ wsL_law_r9, w ∈ lw_tbl := pz_pl _ [299, 300, 301, 302, 303, 304, 305, 306, 307, 308, 309, 310, 311, 312, 313, 314, 315, 316, 174, 317, 318, 319, 320, 177] (by decide +kernel)
set_option maxRecDepth 20000 in
theorem in_wsL_law_r10 : ∀ w ∈ wsL_law_r10, w ∈ lw_tbl := pz_pl _ [180, 182, 183, 186, 187, 191, 192, 321, 788, 789, 790, 791, 792, 794, 34, 795, 796, 797, 798, 799, 800, 322, 323, 324] (by decide +kernel)
set_option maxRecDepth 20000 in
theorem in_wsL_law_r11 : ∀ w ∈ wsL_law_r11, w ∈ lw_tbl := pz_pl _ [325, 178, 801, 802, 803, 804, 326, 327, 328, 329, 185, 190, 805, 806, 807, 808, 330, 331, 332, 333, 809, 810, 811, 812] (by decide +kernel)
set_option maxRecDepth 20000 in
theorem in_wsL_law_r12 : ∀ w ∈ wsL_law_r12, w ∈ lw_tbl := pz_pl _ [650, 334, 335, 336, 337, 813, 814, 815, 816, 338, 339, 340, 341, 817, 818, 819, 820, 342, 343, 344, 345, 114, 821, 822] (by decide +kernel)
set_option maxRecDepth 20000 in
theorem in_wsL_law_r13 : ∀ w ∈ wsL_law_r13, w ∈ lw_tbl := pz_pl _ [823, 824, 653, 346, 347, 348, 349, 350, 351, 352, 69, 110, 358, 353, 354, 355, 356, 357, 359, 361, 362, 363, 365, 367] (by decide +kernel)
set_option maxRecDepth 20000 in
theorem in_wsL_law_r14 : ∀ w ∈ wsL_law_r14, w ∈ lw_tbl := pz_pl _ [371, 373, 404, 406, 5, 407, 360, 370, 408, 410, 6, 411, 412, 414, 7, 415, 193, 170, 416, 417, 418, 419, 420, 422] (by decide +kernel)
set_option maxRecDepth 20000 in
theorem in_wsL_law_r15 : ∀ w ∈ wsL_law_r15, w ∈ lw_tbl := pz_pl _ [8, 423, 424, 425, 426, 427, 428, 429, 435, 430, 431, 432, 433, 434, 436, 438, 9, 439, 168, 440, 442, 10, 443, 444] (by decide +kernel)
set_option maxRecDepth 20000 in
theorem in_wsL_law_r16 : ∀ w ∈ wsL_law_r16, w ∈ lw_tbl := pz_pl _ [445, 446, 447, 448, 449, 70, 450, 451, 452, 453, 454, 457, 459, 461, 472, 473, 474, 475, 375, 377, 369, 455, 166, 476] (by decide +kernel)
set_option maxRecDepth 20000 in
theorem in_wsL_law_r17 : ∀ w ∈ wsL_law_r17, w ∈ lw_tbl := pz_pl _ [478, 11, 479, 368, 351, 480, 481, 482, 483, 484, 485, 486, 487, 492, 488, 490, 12, 491, 825, 826, 827, 828, 829, 649] (by decide +kernel)
set_option maxRecDepth 20000 in
theorem in_wsL_law_r18 : ∀ w ∈ wsL_law_r18, w ∈ lw_tbl := pz_pl _ [647, 830, 832, 35, 833, 834, 836, 36, 837, 838, 840, 37, 841, 842, 844, 38, 845, 846, 848, 39, 849, 850, 852, 40] (by decide +kernel)
set_option maxRecDepth 20000 in
theorem in_wsL_law_r19 : ∀ w ∈ wsL_law_r19, w ∈ lw_tbl := pz_pl _ [853, 854, 855, 856, 857, 858, 860, 41, 861, 862, 864, 42, 865, 654, 866, 493, 494, 495, 496, 497, 499, 13, 500, 501] (by decide +kernel)
set_option maxRecDepth 20000 in
theorem in_wsL_law_r20 : ∀ w ∈ wsL_law_r20, w ∈ lw_tbl := pz_pl _ [502, 503, 504, 505, 507, 14, 508, 509, 510, 511, 512, 513, 515, 15, 516, 517, 518, 519, 520, 521, 522, 523, 524, 179] (by decide +kernel)
set_option maxRecDepth 20000 in
theorem in_wsL_law_r21 : ∀ w ∈ wsL_law_r21, w ∈ lw_tbl := pz_pl _ [525, 527, 16, 528, 372, 117, 529, 531, 17, 532, 867, 868, 869, 870, 871, 873, 43, 874, 875, 877, 44, 878, 879, 881] (by decide +kernel)
set_option maxRecDepth 20000 in
theorem in_wsL_law_r22 : ∀ w ∈ wsL_law_r22, w ∈ lw_tbl := pz_pl _ [45, 882, 533, 534, 535, 536, 537, 539, 18, 540, 541, 543, 19, 544, 376, 378, 460, 545, 547, 20, 548, 462, 456, 374] (by decide +kernel)
set_option maxRecDepth 20000 in
theorem in_wsL_law_r23 : ∀ w ∈ wsL_law_r23, w ∈ lw_tbl := pz_pl _ [366, 364, 115, 549, 550, 551, 552, 553, 554, 556, 21, 557, 184, 558, 560, 22, 561, 562, 563, 564, 565, 566, 568, 23] (by decide +kernel)
set_option maxRecDepth 20000 in
theorem in_wsL_law_r24 : ∀ w ∈ wsL_law_r24, w ∈ lw_tbl := pz_pl _ [569, 570, 572, 24, 573, 574, 576, 25, 577, 578, 580, 26, 581, 188, 582, 584, 27, 585, 458, 116, 586, 588, 28, 589] (by decide +kernel)
set_option maxRecDepth 20000 in
theorem in_wsL_law_r25 : ∀ w ∈ wsL_law_r25, w ∈ lw_tbl := pz_pl _ [590, 592, 29, 593, 883, 884, 885, 886, 887, 889, 46, 890, 688, 891, 893, 47, 894, 655, 895, 897, 48, 898, 899, 901] (by decide +kernel)
set_option maxRecDepth 20000 in
theorem in_wsL_law_r26 : ∀ w ∈ wsL_law_r26, w ∈ lw_tbl := pz_pl _ [49, 902, 907, 903, 905, 50, 906, 908, 910, 51, 911, 912, 914, 52, 915, 656, 916, 918, 53, 919, 920, 922, 54, 923] (by decide +kernel)
set_option maxRecDepth 20000 in
theorem in_wsL_law_r27 : ∀ w ∈ wsL_law_r27, w ∈ lw_tbl := pz_pl _ [594, 595, 596, 597, 924, 925, 926, 927, 598, 599, 600, 601, 602, 603, 604, 605, 928, 929, 930, 931, 606, 607, 608, 609] (by decide +kernel)
set_option maxRecDepth 20000 in
theorem in_wsL_law_r28 : ∀ w ∈ wsL_law_r28, w ∈ lw_tbl := pz_pl _ [610, 932, 611, 612, 613, 614, 615, 933, 934, 935, 936, 616, 617, 618, 619, 937, 938, 939, 940, 620, 621, 622, 623, 181] (by decide +kernel)
set_option maxRecDepth 20000 in
theorem in_wsL_law_r29 : ∀ w ∈ wsL_law_r29, w ∈ lw_tbl := pz_pl _ [624, 626, 30, 627, 941, 942, 943, 944, 628, 629, 630, 631, 632, 634, 31, 635, 636, 638, 32, 639, 945, 946, 947, 948] (by decide +kernel)
set_option maxRecDepth 20000 in
theorem in_wsL_law_r30 : ∀ w ∈ wsL_law_r30, w ∈ lw_tbl := pz_pl _ [949, 951, 55, 952] (by decide +kernel)
set_option maxRecDepth 20000 in
theorem in_wsX30 : ∀ w ∈ wsX30, w ∈ lw_tbl := pz_pl _ [118, 120, 122, 124, 126, 128, 130, 132, 134, 136, 138, 140, 142] (by decide +kernel)
set_option maxRecDepth 20000 in
theorem in_wsX40 : ∀ w ∈ wsX40, w ∈ lw_tbl := pz_pl _ [689, 691, 693, 695, 697, 699, 701, 703, 705, 707, 709, 711, 713, 715, 717, 719, 721, 723, 725, 727, 729, 731, 733, 735, 737, 739, 741, 743, 745, 747, 749, 751, 753, 755, 757, 759, 761, 763, 765, 767, 769, 771, 773] (by decide +kernel)
set_option maxRecDepth 20000 in
theorem in_wsJx4a65c0 : ∀ w ∈ wsJx4a65c0, w ∈ lw_tbl := pz_pl _ [102, 98, 100] (by decide +kernel)
set_option maxRecDepth 20000 in
theorem in_wsX20 : ∀ w ∈ wsX20, w ∈ lw_tbl := pz_pl _ [194, 196, 198, 200, 202, 204, 206, 208, 210, 212, 214, 216, 218, 220, 222, 224, 226] (by decide +kernel)
set_option maxRecDepth 20000 in
theorem in_wsX10 : ∀ w ∈ wsX10, w ∈ lw_tbl := pz_pl _ [379, 381, 383, 385, 387, 389, 391, 393, 395, 397, 399, 401] (by decide +kernel)
set_option maxRecDepth 20000 in
theorem in_wsX00 : ∀ w ∈ wsX00, w ∈ lw_tbl := pz_pl _ [463, 465, 467, 469] (by decide +kernel)
theorem in_nil9 : ∀ w ∈ ([] : List Cond), w ∈ lw_tbl := fun w h => absurd h List.not_mem_nil
theorem wsL_law_in : ∀ w ∈ wsL_law, w ∈ lw_tbl := pz_ap (pz_ap (pz_ap (pz_ap (pz_ap (pz_ap (pz_ap (pz_ap (in_wsL_law_r1) (pz_ap (in_wsL_law_r2) (pz_ap (in_wsL_law_r3) (pz_ap (in_wsL_law_r4) (pz_ap (in_wsL_law_r5) (pz_ap (in_wsL_law_r6) (pz_ap (in_wsL_law_r7) (pz_ap (in_wsL_law_r8) (pz_ap (in_wsL_law_r9) (pz_ap (in_wsL_law_r10) (pz_ap (in_wsL_law_r11) (pz_ap (in_wsL_law_r12) (pz_ap (in_wsL_law_r13) (pz_ap (in_wsL_law_r14) (pz_ap (in_wsL_law_r15) (pz_ap (in_wsL_law_r16) (pz_ap (in_wsL_law_r17) (pz_ap (in_wsL_law_r18) (pz_ap (in_wsL_law_r19) (pz_ap (in_wsL_law_r20) (pz_ap (in_wsL_law_r21) (pz_ap (in_wsL_law_r22) (pz_ap (in_wsL_law_r23) (pz_ap (in_wsL_law_r24) (pz_ap (in_wsL_law_r25) (pz_ap (in_wsL_law_r26) (pz_ap (in_wsL_law_r27) (pz_ap (in_wsL_law_r28) (pz_ap (in_wsL_law_r29) (in_wsL_law_r30)))))))))))))))))))))))))))))) (in_wsX30)) (in_wsX40)) (in_wsJx4a65c0)) (in_wsX20)) (in_wsX10)) (in_wsX00)) (in_nil9)
theorem inlX0 : ∀ w ∈ wsX00, w ∈ wsL_law := fun _ h => List.mem_append_left _ (List.mem_append_right _ h)
theorem inX0 : ∀ w ∈ wsX00, w ∈ lw_tbl := fun w h => wsL_law_in w (inlX0 w h)
theorem inlX1 : ∀ w ∈ wsX10, w ∈ wsL_law := fun _ h => List.mem_append_left _ (List.mem_append_left _ (List.mem_append_right _ h))
theorem inX1 : ∀ w ∈ wsX10, w ∈ lw_tbl := fun w h => wsL_law_in w (inlX1 w h)
theorem inlX2 : ∀ w ∈ wsX20, w ∈ wsL_law := fun _ h => List.mem_append_left _ (List.mem_append_left _ (List.mem_append_left _ (List.mem_append_right _ h)))
theorem inX2 : ∀ w ∈ wsX20, w ∈ lw_tbl := fun w h => wsL_law_in w (inlX2 w h)
theorem inlX3 : ∀ w ∈ wsX30, w ∈ wsL_law := fun _ h => List.mem_append_left _ (List.mem_append_left _ (List.mem_append_left _ (List.mem_append_left _ (List.mem_append_left _ (List.mem_append_left _ (List.mem_append_right _ h))))))
theorem inX3 : ∀ w ∈ wsX30, w ∈ lw_tbl := fun w h => wsL_law_in w (inlX3 w h)
theorem inlX4 : ∀ w ∈ wsX40, w ∈ wsL_law := fun _ h => List.mem_append_left _ (List.mem_append_left _ (List.mem_append_left _ (List.mem_append_left _ (List.mem_append_left _ (List.mem_append_right _ h)))))
theorem inX4 : ∀ w ∈ wsX40, w ∈ lw_tbl := fun w h => wsL_law_in w (inlX4 w h)
theorem inJx145de : ∀ w ∈ wsJx145de0, w ∈ lw_tbl := by decide +kernel
theorem inJx8e188 : ∀ w ∈ wsJx8e1880, w ∈ lw_tbl := by decide +kernel
theorem inJxab1ab : ∀ w ∈ wsJxab1ab0, w ∈ lw_tbl := by decide +kernel
theorem inJ9 : ∀ w ∈ wsJ90, w ∈ lw_tbl := by decide +kernel
theorem inJ10 : ∀ w ∈ wsJ100, w ∈ lw_tbl := by decide +kernel
theorem inJxa1e45 : ∀ w ∈ wsJxa1e450, w ∈ lw_tbl := by decide +kernel
theorem inJxc12de : ∀ w ∈ wsJxc12de0, w ∈ lw_tbl := by decide +kernel
theorem inlJx4a65c : ∀ w ∈ wsJx4a65c0, w ∈ wsL_law := fun _ h => List.mem_append_left _ (List.mem_append_left _ (List.mem_append_left _ (List.mem_append_left _ (List.mem_append_right _ h))))
theorem inJx4a65c : ∀ w ∈ wsJx4a65c0, w ∈ lw_tbl := fun w h => wsL_law_in w (inlJx4a65c w h)
theorem inJ7 : ∀ w ∈ wsJ70, w ∈ lw_tbl := by decide +kernel
theorem inJx5ef63 : ∀ w ∈ wsJx5ef630, w ∈ lw_tbl := by decide +kernel
theorem inJxbd725 : ∀ w ∈ wsJxbd7250, w ∈ lw_tbl := by decide +kernel
theorem inJ15 : ∀ w ∈ wsJ150, w ∈ lw_tbl := by decide +kernel
theorem inJxf0a74 : ∀ w ∈ wsJxf0a740, w ∈ lw_tbl := by decide +kernel
theorem inJxa66e6 : ∀ w ∈ wsJxa66e60, w ∈ lw_tbl := by decide +kernel
theorem inJ8 : ∀ w ∈ wsJ80, w ∈ lw_tbl := by decide +kernel
theorem inJ3 : ∀ w ∈ wsJ30, w ∈ lw_tbl := by decide +kernel
abbrev vwCl : List vw_C := [(RJx4a65c, TJx4a65c, 3), (RX0, TX0, 4), (RX1, TX1, 12), (RX2, TX2, 17), (RX3, TX3, 13), (RX4, TX4, 43)]
end
section
theorem dJxa1e45_init_da8c8_0 : decode cJxa1e45_init_da8c8 0 = .ok (.aload_n 0, 1) := by decide +kernel
theorem dJxa1e45_init_da8c8_1 : decode cJxa1e45_init_da8c8 1 = .ok (.invokespecial 1, 3) := by decide +kernel
theorem dJxa1e45_init_da8c8_4 : decode cJxa1e45_init_da8c8 4 = .ok (.return_, 1) := by decide +kernel
set_option maxRecDepth 20000 in
theorem ggJxc12de_init_da8c8_Jxa1e45_init_da8c8 : GoodIn wsJxc12de_init_da8c8 wsJxa1e45_init_da8c8 := goodIn_r _ [5, 6, 7, 8] (by decide +kernel) (by decide +kernel)
set_option maxRecDepth 20000 in
theorem gJxc12de_init_da8c8_Jxa1e45_init_da8c8 : GoodIn wsJxc12de_init_da8c8 (wsJxa1e45_init_da8c8) := ggJxc12de_init_da8c8_Jxa1e45_init_da8c8
theorem dJxc12de_init_da8c8_0 : decode cJxc12de_init_da8c8 0 = .ok (.aload_n 0, 1) := by decide +kernel
theorem dJxc12de_init_da8c8_1 : decode cJxc12de_init_da8c8 1 = .ok (.invokespecial 1, 3) := by decide +kernel
theorem dJxc12de_init_da8c8_4 : decode cJxc12de_init_da8c8 4 = .ok (.aload_n 0, 1) := by decide +kernel
theorem dJxc12de_init_da8c8_5 : decode cJxc12de_init_da8c8 5 = .ok (.iconst 0, 1) := by decide +kernel
theorem dJxc12de_init_da8c8_6 : decode cJxc12de_init_da8c8 6 = .ok (.putfield 7, 3) := by decide +kernel
theorem dJxc12de_init_da8c8_9 : decode cJxc12de_init_da8c8 9 = .ok (.return_, 1) := by decide +kernel
set_option maxRecDepth 20000 in
theorem ggJx4a65c_init_da8c8_Jxc12de_init_da8c8 : GoodIn wsJx4a65c_init_da8c8 wsJxc12de_init_da8c8 := goodIn_r _ [6, 7, 8, 9, 10, 11, 12, 13, 14, 15, 16, 17] (by decide +kernel) (by decide +kernel)
set_option maxRecDepth 20000 in
theorem gJx4a65c_init_da8c8_Jxc12de_init_da8c8 : GoodIn wsJx4a65c_init_da8c8 (wsJxc12de_init_da8c8) := ggJx4a65c_init_da8c8_Jxc12de_init_da8c8
theorem dJx4a65c_init_da8c8_0 : decode cJx4a65c_init_da8c8 0 = .ok (.aload_n 0, 1) := by decide +kernel
theorem dJx4a65c_init_da8c8_1 : decode cJx4a65c_init_da8c8 1 = .ok (.invokespecial 1, 3) := by decide +kernel
theorem dJx4a65c_init_da8c8_4 : decode cJx4a65c_init_da8c8 4 = .ok (.aload_n 0, 1) := by decide +kernel
theorem dJx4a65c_init_da8c8_5 : decode cJx4a65c_init_da8c8 5 = .ok (.getstatic 39, 3) := by decide +kernel
theorem dJx4a65c_init_da8c8_8 : decode cJx4a65c_init_da8c8 8 = .ok (.putfield 9, 3) := by decide +kernel
theorem dJx4a65c_init_da8c8_11 : decode cJx4a65c_init_da8c8 11 = .ok (.return_, 1) := by decide +kernel
theorem dJx4a65c_size_8abf5_0 : decode cJx4a65c_size_8abf5 0 = .ok (.aload_n 0, 1) := by decide +kernel
theorem dJx4a65c_size_8abf5_1 : decode cJx4a65c_size_8abf5 1 = .ok (.getfield 48, 3) := by decide +kernel
theorem dJx4a65c_size_8abf5_4 : decode cJx4a65c_size_8abf5 4 = .ok (.ireturn, 1) := by decide +kernel
theorem dJx4a65c_rangeCheckForAdd_d00df_0 : decode cJx4a65c_rangeCheckForAdd_d00df 0 = .ok (.iload_n 1, 1) := by decide +kernel
theorem dJx4a65c_rangeCheckForAdd_d00df_1 : decode cJx4a65c_rangeCheckForAdd_d00df 1 = .ok (.aload_n 0, 1) := by decide +kernel
theorem dJx4a65c_rangeCheckForAdd_d00df_2 : decode cJx4a65c_rangeCheckForAdd_d00df 2 = .ok (.getfield 48, 3) := by decide +kernel
theorem dJx4a65c_rangeCheckForAdd_d00df_5 : decode cJx4a65c_rangeCheckForAdd_d00df 5 = .ok (.if_icmp .gt 7, 3) := by decide +kernel
theorem dJx4a65c_rangeCheckForAdd_d00df_8 : decode cJx4a65c_rangeCheckForAdd_d00df 8 = .ok (.iload_n 1, 1) := by decide +kernel
theorem dJx4a65c_rangeCheckForAdd_d00df_9 : decode cJx4a65c_rangeCheckForAdd_d00df 9 = .ok (.ifCond .ge 16, 3) := by decide +kernel
theorem dJx4a65c_rangeCheckForAdd_d00df_12 : decode cJx4a65c_rangeCheckForAdd_d00df 12 = .ok (.new 187, 3) := by decide +kernel
theorem dJx4a65c_rangeCheckForAdd_d00df_15 : decode cJx4a65c_rangeCheckForAdd_d00df 15 = .ok (.dup, 1) := by decide +kernel
theorem dJx4a65c_rangeCheckForAdd_d00df_16 : decode cJx4a65c_rangeCheckForAdd_d00df 16 = .ok (.aload_n 0, 1) := by decide +kernel
theorem dJx4a65c_rangeCheckForAdd_d00df_17 : decode cJx4a65c_rangeCheckForAdd_d00df 17 = .ok (.iload_n 1, 1) := by decide +kernel
theorem dJx4a65c_rangeCheckForAdd_d00df_18 : decode cJx4a65c_rangeCheckForAdd_d00df 18 = .ok (.invokevirtual 198, 3) := by decide +kernel
theorem dJx4a65c_rangeCheckForAdd_d00df_21 : decode cJx4a65c_rangeCheckForAdd_d00df 21 = .ok (.invokespecial 193, 3) := by decide +kernel
theorem dJx4a65c_rangeCheckForAdd_d00df_24 : decode cJx4a65c_rangeCheckForAdd_d00df 24 = .ok (.athrow, 1) := by decide +kernel
theorem dJx4a65c_rangeCheckForAdd_d00df_25 : decode cJx4a65c_rangeCheckForAdd_d00df 25 = .ok (.return_, 1) := by decide +kernel
set_option maxRecDepth 20000 in
theorem ggJx4a65c_grow_92f84_J8_newLength_cabcc : GoodIn wsJx4a65c_grow_92f84 wsJ8_newLength_cabcc := goodIn_r _ [11, 12, 4, 5, 6, 13, 14, 15, 10, 16] (by decide +kernel) (by decide +kernel)
set_option maxRecDepth 20000 in
theorem gJx4a65c_grow_92f84_J8_newLength_cabcc : GoodIn wsJx4a65c_grow_92f84 (va_wsS RJx4a65c 73 yJ8_newLength_cabcc wsJ8_newLength_cabcc) := goodIn_app (goodIn_of _ (by decide +kernel)) ggJx4a65c_grow_92f84_J8_newLength_cabcc
set_option maxRecDepth 20000 in
theorem ggJx4a65c_grow_92f84_J7_copyOf_1904c : GoodIn wsJx4a65c_grow_92f84 wsJ7_copyOf_1904c := goodIn_r _ [20, 21, 22, 23, 24, 25, 26, 19, 27, 28, 29, 30, 31, 5, 32, 33, 34, 35, 36] (by decide +kernel) (by decide +kernel)
set_option maxRecDepth 20000 in
theorem gJx4a65c_grow_92f84_J7_copyOf_1904c : GoodIn wsJx4a65c_grow_92f84 (va_wsS RJx4a65c 66 yJ7_copyOf_1904c wsJ7_copyOf_1904c) := goodIn_app (goodIn_of _ (by decide +kernel)) ggJx4a65c_grow_92f84_J7_copyOf_1904c
theorem dJx4a65c_grow_92f84_0 : decode cJx4a65c_grow_92f84 0 = .ok (.aload_n 0, 1) := by decide +kernel
theorem dJx4a65c_grow_92f84_1 : decode cJx4a65c_grow_92f84 1 = .ok (.getfield 9, 3) := by decide +kernel
theorem dJx4a65c_grow_92f84_4 : decode cJx4a65c_grow_92f84 4 = .ok (.arraylength, 1) := by decide +kernel
theorem dJx4a65c_grow_92f84_5 : decode cJx4a65c_grow_92f84 5 = .ok (.istore_n 2, 1) := by decide +kernel
theorem dJx4a65c_grow_92f84_6 : decode cJx4a65c_grow_92f84 6 = .ok (.iload_n 2, 1) := by decide +kernel
theorem dJx4a65c_grow_92f84_7 : decode cJx4a65c_grow_92f84 7 = .ok (.ifCond .gt 13, 3) := by decide +kernel
theorem dJx4a65c_grow_92f84_10 : decode cJx4a65c_grow_92f84 10 = .ok (.aload_n 0, 1) := by decide +kernel
theorem dJx4a65c_grow_92f84_11 : decode cJx4a65c_grow_92f84 11 = .ok (.getfield 9, 3) := by decide +kernel
theorem dJx4a65c_grow_92f84_14 : decode cJx4a65c_grow_92f84 14 = .ok (.getstatic 39, 3) := by decide +kernel
theorem dJx4a65c_grow_92f84_17 : decode cJx4a65c_grow_92f84 17 = .ok (.if_acmp .eq 28, 3) := by decide +kernel
theorem dJx4a65c_grow_92f84_20 : decode cJx4a65c_grow_92f84 20 = .ok (.iload_n 2, 1) := by decide +kernel
theorem dJx4a65c_grow_92f84_21 : decode cJx4a65c_grow_92f84 21 = .ok (.iload_n 1, 1) := by decide +kernel
theorem dJx4a65c_grow_92f84_22 : decode cJx4a65c_grow_92f84 22 = .ok (.iload_n 2, 1) := by decide +kernel
theorem dJx4a65c_grow_92f84_23 : decode cJx4a65c_grow_92f84 23 = .ok (.isub, 1) := by decide +kernel
theorem dJx4a65c_grow_92f84_24 : decode cJx4a65c_grow_92f84 24 = .ok (.iload_n 2, 1) := by decide +kernel
theorem dJx4a65c_grow_92f84_25 : decode cJx4a65c_grow_92f84 25 = .ok (.iconst 1, 1) := by decide +kernel
theorem dJx4a65c_grow_92f84_26 : decode cJx4a65c_grow_92f84 26 = .ok (.ishr, 1) := by decide +kernel
theorem dJx4a65c_grow_92f84_27 : decode cJx4a65c_grow_92f84 27 = .ok (.invokestatic 73, 3) := by decide +kernel
theorem dJx4a65c_grow_92f84_30 : decode cJx4a65c_grow_92f84 30 = .ok (.istore_n 3, 1) := by decide +kernel
theorem dJx4a65c_grow_92f84_31 : decode cJx4a65c_grow_92f84 31 = .ok (.aload_n 0, 1) := by decide +kernel
theorem dJx4a65c_grow_92f84_32 : decode cJx4a65c_grow_92f84 32 = .ok (.aload_n 0, 1) := by decide +kernel
theorem dJx4a65c_grow_92f84_33 : decode cJx4a65c_grow_92f84 33 = .ok (.getfield 9, 3) := by decide +kernel
theorem dJx4a65c_grow_92f84_36 : decode cJx4a65c_grow_92f84 36 = .ok (.iload_n 3, 1) := by decide +kernel
theorem dJx4a65c_grow_92f84_37 : decode cJx4a65c_grow_92f84 37 = .ok (.invokestatic 66, 3) := by decide +kernel
theorem dJx4a65c_grow_92f84_40 : decode cJx4a65c_grow_92f84 40 = .ok (.dup_x1, 1) := by decide +kernel
theorem dJx4a65c_grow_92f84_41 : decode cJx4a65c_grow_92f84 41 = .ok (.putfield 9, 3) := by decide +kernel
theorem dJx4a65c_grow_92f84_44 : decode cJx4a65c_grow_92f84 44 = .ok (.areturn, 1) := by decide +kernel
theorem dJx4a65c_grow_92f84_45 : decode cJx4a65c_grow_92f84 45 = .ok (.aload_n 0, 1) := by decide +kernel
theorem dJx4a65c_grow_92f84_46 : decode cJx4a65c_grow_92f84 46 = .ok (.bipush 10, 2) := by decide +kernel
theorem dJx4a65c_grow_92f84_48 : decode cJx4a65c_grow_92f84 48 = .ok (.iload_n 1, 1) := by decide +kernel
theorem dJx4a65c_grow_92f84_49 : decode cJx4a65c_grow_92f84 49 = .ok (.invokestatic 79, 3) := by decide +kernel
theorem dJx4a65c_grow_92f84_52 : decode cJx4a65c_grow_92f84 52 = .ok (.anewarray 7, 3) := by decide +kernel
theorem dJx4a65c_grow_92f84_55 : decode cJx4a65c_grow_92f84 55 = .ok (.dup_x1, 1) := by decide +kernel
theorem dJx4a65c_grow_92f84_56 : decode cJx4a65c_grow_92f84 56 = .ok (.putfield 9, 3) := by decide +kernel
theorem dJx4a65c_grow_92f84_59 : decode cJx4a65c_grow_92f84 59 = .ok (.areturn, 1) := by decide +kernel
set_option maxRecDepth 20000 in
theorem ggJx4a65c_grow_d5877_Jx4a65c_grow_92f84 : GoodIn wsJx4a65c_grow_d5877 wsJx4a65c_grow_92f84 := goodIn_r _ [6, 7, 8, 9, 10, 11, 12, 13, 14, 15, 16, 17, 18, 19, 20, 21, 22, 23, 24, 25, 26, 27, 28, 29, 30, 31, 32, 33, 34, 35, 36, 37, 38, 39, 40, 41, 42, 43, 44, 45] (by decide +kernel) (by decide +kernel)
set_option maxRecDepth 20000 in
theorem gJx4a65c_grow_d5877_Jx4a65c_grow_92f84 : GoodIn wsJx4a65c_grow_d5877 (wsV RJx4a65c 69 RJx4a65c yJx4a65c_grow_92f84 wsJx4a65c_grow_92f84) := goodIn_app (goodIn_of _ (by decide +kernel)) ggJx4a65c_grow_d5877_Jx4a65c_grow_92f84
theorem dJx4a65c_grow_d5877_0 : decode cJx4a65c_grow_d5877 0 = .ok (.aload_n 0, 1) := by decide +kernel
theorem dJx4a65c_grow_d5877_1 : decode cJx4a65c_grow_d5877 1 = .ok (.aload_n 0, 1) := by decide +kernel
theorem dJx4a65c_grow_d5877_2 : decode cJx4a65c_grow_d5877 2 = .ok (.getfield 48, 3) := by decide +kernel
theorem dJx4a65c_grow_d5877_5 : decode cJx4a65c_grow_d5877 5 = .ok (.iconst 1, 1) := by decide +kernel
theorem dJx4a65c_grow_d5877_6 : decode cJx4a65c_grow_d5877 6 = .ok (.iadd, 1) := by decide +kernel
theorem dJx4a65c_grow_d5877_7 : decode cJx4a65c_grow_d5877 7 = .ok (.invokevirtual 69, 3) := by decide +kernel
theorem dJx4a65c_grow_d5877_10 : decode cJx4a65c_grow_d5877 10 = .ok (.areturn, 1) := by decide +kernel
set_option maxRecDepth 20000 in
theorem ggJx4a65c_add_72be8_Jx4a65c_grow_d5877 : GoodIn wsJx4a65c_add_72be8 wsJx4a65c_grow_d5877 := goodIn_r _ [6, 1, 7, 8, 9, 5, 10, 11, 12, 13, 14, 15, 16, 17, 18, 19, 20, 21, 22, 23, 24, 25, 26, 27, 28, 29, 30, 31, 32, 33, 34, 35, 36, 37, 38, 39, 40, 41, 42, 43, 44, 45, 46, 47, 48, 49] (by decide +kernel) (by decide +kernel)
set_option maxRecDepth 20000 in
theorem gJx4a65c_add_72be8_Jx4a65c_grow_d5877 : GoodIn wsJx4a65c_add_72be8 (wsV RJx4a65c 129 RJx4a65c yJx4a65c_grow_d5877 wsJx4a65c_grow_d5877) := goodIn_app (goodIn_of _ (by decide +kernel)) ggJx4a65c_add_72be8_Jx4a65c_grow_d5877
theorem dJx4a65c_add_72be8_0 : decode cJx4a65c_add_72be8 0 = .ok (.iload_n 3, 1) := by decide +kernel
theorem dJx4a65c_add_72be8_1 : decode cJx4a65c_add_72be8 1 = .ok (.aload_n 2, 1) := by decide +kernel
theorem dJx4a65c_add_72be8_2 : decode cJx4a65c_add_72be8 2 = .ok (.arraylength, 1) := by decide +kernel
theorem dJx4a65c_add_72be8_3 : decode cJx4a65c_add_72be8 3 = .ok (.if_icmp .ne 8, 3) := by decide +kernel
theorem dJx4a65c_add_72be8_6 : decode cJx4a65c_add_72be8 6 = .ok (.aload_n 0, 1) := by decide +kernel
theorem dJx4a65c_add_72be8_7 : decode cJx4a65c_add_72be8 7 = .ok (.invokevirtual 129, 3) := by decide +kernel
theorem dJx4a65c_add_72be8_10 : decode cJx4a65c_add_72be8 10 = .ok (.astore_n 2, 1) := by decide +kernel
theorem dJx4a65c_add_72be8_11 : decode cJx4a65c_add_72be8 11 = .ok (.aload_n 2, 1) := by decide +kernel
theorem dJx4a65c_add_72be8_12 : decode cJx4a65c_add_72be8 12 = .ok (.iload_n 3, 1) := by decide +kernel
theorem dJx4a65c_add_72be8_13 : decode cJx4a65c_add_72be8 13 = .ok (.aload_n 1, 1) := by decide +kernel
theorem dJx4a65c_add_72be8_14 : decode cJx4a65c_add_72be8 14 = .ok (.aastore, 1) := by decide +kernel
theorem dJx4a65c_add_72be8_15 : decode cJx4a65c_add_72be8 15 = .ok (.aload_n 0, 1) := by decide +kernel
theorem dJx4a65c_add_72be8_16 : decode cJx4a65c_add_72be8 16 = .ok (.iload_n 3, 1) := by decide +kernel
theorem dJx4a65c_add_72be8_17 : decode cJx4a65c_add_72be8 17 = .ok (.iconst 1, 1) := by decide +kernel
theorem dJx4a65c_add_72be8_18 : decode cJx4a65c_add_72be8 18 = .ok (.iadd, 1) := by decide +kernel
theorem dJx4a65c_add_72be8_19 : decode cJx4a65c_add_72be8 19 = .ok (.putfield 48, 3) := by decide +kernel
theorem dJx4a65c_add_72be8_22 : decode cJx4a65c_add_72be8 22 = .ok (.return_, 1) := by decide +kernel
set_option maxRecDepth 20000 in
theorem ggJx4a65c_add_9ea2d_Jx4a65c_add_72be8 : GoodIn wsJx4a65c_add_9ea2d wsJx4a65c_add_72be8 := goodIn_r _ [9, 4, 10, 11, 12, 8, 13, 14, 15, 16, 17, 3, 18, 19, 20, 21, 22, 23, 24, 25, 26, 27, 28, 29, 30, 31, 32, 33, 34, 35, 36, 37, 38, 39, 40, 41, 42, 43, 44, 45, 46, 47, 48, 49, 50, 51, 52, 53, 54, 55] (by decide +kernel) (by decide +kernel)
set_option maxRecDepth 20000 in
theorem gJx4a65c_add_9ea2d_Jx4a65c_add_72be8 : GoodIn wsJx4a65c_add_9ea2d (wsV RJx4a65c 131 RJx4a65c yJx4a65c_add_72be8 wsJx4a65c_add_72be8) := goodIn_app (goodIn_of _ (by decide +kernel)) ggJx4a65c_add_9ea2d_Jx4a65c_add_72be8
theorem dJx4a65c_add_9ea2d_0 : decode cJx4a65c_add_9ea2d 0 = .ok (.aload_n 0, 1) := by decide +kernel
theorem dJx4a65c_add_9ea2d_1 : decode cJx4a65c_add_9ea2d 1 = .ok (.dup, 1) := by decide +kernel
theorem dJx4a65c_add_9ea2d_2 : decode cJx4a65c_add_9ea2d 2 = .ok (.getfield 63, 3) := by decide +kernel
theorem dJx4a65c_add_9ea2d_5 : decode cJx4a65c_add_9ea2d 5 = .ok (.iconst 1, 1) := by decide +kernel
theorem dJx4a65c_add_9ea2d_6 : decode cJx4a65c_add_9ea2d 6 = .ok (.iadd, 1) := by decide +kernel
theorem dJx4a65c_add_9ea2d_7 : decode cJx4a65c_add_9ea2d 7 = .ok (.putfield 63, 3) := by decide +kernel
theorem dJx4a65c_add_9ea2d_10 : decode cJx4a65c_add_9ea2d 10 = .ok (.aload_n 0, 1) := by decide +kernel
theorem dJx4a65c_add_9ea2d_11 : decode cJx4a65c_add_9ea2d 11 = .ok (.aload_n 1, 1) := by decide +kernel
theorem dJx4a65c_add_9ea2d_12 : decode cJx4a65c_add_9ea2d 12 = .ok (.aload_n 0, 1) := by decide +kernel
theorem dJx4a65c_add_9ea2d_13 : decode cJx4a65c_add_9ea2d 13 = .ok (.getfield 9, 3) := by decide +kernel
theorem dJx4a65c_add_9ea2d_16 : decode cJx4a65c_add_9ea2d 16 = .ok (.aload_n 0, 1) := by decide +kernel
theorem dJx4a65c_add_9ea2d_17 : decode cJx4a65c_add_9ea2d 17 = .ok (.getfield 48, 3) := by decide +kernel
theorem dJx4a65c_add_9ea2d_20 : decode cJx4a65c_add_9ea2d 20 = .ok (.invokevirtual 131, 3) := by decide +kernel
theorem dJx4a65c_add_9ea2d_23 : decode cJx4a65c_add_9ea2d 23 = .ok (.iconst 1, 1) := by decide +kernel
theorem dJx4a65c_add_9ea2d_24 : decode cJx4a65c_add_9ea2d 24 = .ok (.ireturn, 1) := by decide +kernel
set_option maxRecDepth 20000 in
theorem ggJx4a65c_add_7a177_Jx4a65c_rangeCheckForAdd_d00df : GoodIn wsJx4a65c_add_7a177 wsJx4a65c_rangeCheckForAdd_d00df := goodIn_r _ [13, 3, 54, 55, 56] (by decide +kernel) (by decide +kernel)
set_option maxRecDepth 20000 in
theorem gJx4a65c_add_7a177_Jx4a65c_rangeCheckForAdd_d00df : GoodIn wsJx4a65c_add_7a177 (wsV RJx4a65c 135 RJx4a65c yJx4a65c_rangeCheckForAdd_d00df wsJx4a65c_rangeCheckForAdd_d00df) := goodIn_app (goodIn_of _ (by decide +kernel)) ggJx4a65c_add_7a177_Jx4a65c_rangeCheckForAdd_d00df
set_option maxRecDepth 20000 in
theorem ggJx4a65c_add_7a177_Jx4a65c_grow_d5877 : GoodIn wsJx4a65c_add_7a177 wsJx4a65c_grow_d5877 := goodIn_r _ [17, 3, 18, 19, 20, 12, 21, 4, 22, 23, 24, 25, 26, 27, 28, 29, 30, 31, 32, 33, 34, 35, 36, 37, 38, 39, 40, 41, 42, 43, 44, 45, 46, 47, 48, 49, 50, 51, 52, 53, 6, 7, 8, 54, 55, 56] (by decide +kernel) (by decide +kernel)
set_option maxRecDepth 20000 in
theorem gJx4a65c_add_7a177_Jx4a65c_grow_d5877 : GoodIn wsJx4a65c_add_7a177 (wsV RJx4a65c 129 RJx4a65c yJx4a65c_grow_d5877 wsJx4a65c_grow_d5877) := goodIn_app (goodIn_of _ (by decide +kernel)) ggJx4a65c_add_7a177_Jx4a65c_grow_d5877
theorem dJx4a65c_add_7a177_0 : decode cJx4a65c_add_7a177 0 = .ok (.aload_n 0, 1) := by decide +kernel
theorem dJx4a65c_add_7a177_1 : decode cJx4a65c_add_7a177 1 = .ok (.iload_n 1, 1) := by decide +kernel
theorem dJx4a65c_add_7a177_2 : decode cJx4a65c_add_7a177 2 = .ok (.invokevirtual 135, 3) := by decide +kernel
theorem dJx4a65c_add_7a177_5 : decode cJx4a65c_add_7a177 5 = .ok (.aload_n 0, 1) := by decide +kernel
theorem dJx4a65c_add_7a177_6 : decode cJx4a65c_add_7a177 6 = .ok (.dup, 1) := by decide +kernel
theorem dJx4a65c_add_7a177_7 : decode cJx4a65c_add_7a177 7 = .ok (.getfield 63, 3) := by decide +kernel
theorem dJx4a65c_add_7a177_10 : decode cJx4a65c_add_7a177 10 = .ok (.iconst 1, 1) := by decide +kernel
theorem dJx4a65c_add_7a177_11 : decode cJx4a65c_add_7a177 11 = .ok (.iadd, 1) := by decide +kernel
theorem dJx4a65c_add_7a177_12 : decode cJx4a65c_add_7a177 12 = .ok (.putfield 63, 3) := by decide +kernel
theorem dJx4a65c_add_7a177_15 : decode cJx4a65c_add_7a177 15 = .ok (.aload_n 0, 1) := by decide +kernel
theorem dJx4a65c_add_7a177_16 : decode cJx4a65c_add_7a177 16 = .ok (.getfield 48, 3) := by decide +kernel
theorem dJx4a65c_add_7a177_19 : decode cJx4a65c_add_7a177 19 = .ok (.dup, 1) := by decide +kernel
theorem dJx4a65c_add_7a177_20 : decode cJx4a65c_add_7a177 20 = .ok (.istore_n 3, 1) := by decide +kernel
theorem dJx4a65c_add_7a177_21 : decode cJx4a65c_add_7a177 21 = .ok (.aload_n 0, 1) := by decide +kernel
theorem dJx4a65c_add_7a177_22 : decode cJx4a65c_add_7a177 22 = .ok (.getfield 9, 3) := by decide +kernel
theorem dJx4a65c_add_7a177_25 : decode cJx4a65c_add_7a177 25 = .ok (.dup, 1) := by decide +kernel
theorem dJx4a65c_add_7a177_26 : decode cJx4a65c_add_7a177 26 = .ok (.astore 4, 2) := by decide +kernel
theorem dJx4a65c_add_7a177_28 : decode cJx4a65c_add_7a177 28 = .ok (.arraylength, 1) := by decide +kernel
theorem dJx4a65c_add_7a177_29 : decode cJx4a65c_add_7a177 29 = .ok (.if_icmp .ne 9, 3) := by decide +kernel
theorem dJx4a65c_add_7a177_32 : decode cJx4a65c_add_7a177 32 = .ok (.aload_n 0, 1) := by decide +kernel
theorem dJx4a65c_add_7a177_33 : decode cJx4a65c_add_7a177 33 = .ok (.invokevirtual 129, 3) := by decide +kernel
theorem dJx4a65c_add_7a177_36 : decode cJx4a65c_add_7a177 36 = .ok (.astore 4, 2) := by decide +kernel
theorem dJx4a65c_add_7a177_38 : decode cJx4a65c_add_7a177 38 = .ok (.aload 4, 2) := by decide +kernel
theorem dJx4a65c_add_7a177_40 : decode cJx4a65c_add_7a177 40 = .ok (.iload_n 1, 1) := by decide +kernel
theorem dJx4a65c_add_7a177_41 : decode cJx4a65c_add_7a177 41 = .ok (.aload 4, 2) := by decide +kernel
theorem dJx4a65c_add_7a177_43 : decode cJx4a65c_add_7a177 43 = .ok (.iload_n 1, 1) := by decide +kernel
theorem dJx4a65c_add_7a177_44 : decode cJx4a65c_add_7a177 44 = .ok (.iconst 1, 1) := by decide +kernel
theorem dJx4a65c_add_7a177_45 : decode cJx4a65c_add_7a177 45 = .ok (.iadd, 1) := by decide +kernel
theorem dJx4a65c_add_7a177_46 : decode cJx4a65c_add_7a177 46 = .ok (.iload_n 3, 1) := by decide +kernel
theorem dJx4a65c_add_7a177_47 : decode cJx4a65c_add_7a177 47 = .ok (.iload_n 1, 1) := by decide +kernel
theorem dJx4a65c_add_7a177_48 : decode cJx4a65c_add_7a177 48 = .ok (.isub, 1) := by decide +kernel
theorem dJx4a65c_add_7a177_49 : decode cJx4a65c_add_7a177 49 = .ok (.invokestatic 112, 3) := by decide +kernel
theorem dJx4a65c_add_7a177_52 : decode cJx4a65c_add_7a177 52 = .ok (.aload 4, 2) := by decide +kernel
theorem dJx4a65c_add_7a177_54 : decode cJx4a65c_add_7a177 54 = .ok (.iload_n 1, 1) := by decide +kernel
theorem dJx4a65c_add_7a177_55 : decode cJx4a65c_add_7a177 55 = .ok (.aload_n 2, 1) := by decide +kernel
theorem dJx4a65c_add_7a177_56 : decode cJx4a65c_add_7a177 56 = .ok (.aastore, 1) := by decide +kernel
theorem dJx4a65c_add_7a177_57 : decode cJx4a65c_add_7a177 57 = .ok (.aload_n 0, 1) := by decide +kernel
theorem dJx4a65c_add_7a177_58 : decode cJx4a65c_add_7a177 58 = .ok (.iload_n 3, 1) := by decide +kernel
theorem dJx4a65c_add_7a177_59 : decode cJx4a65c_add_7a177 59 = .ok (.iconst 1, 1) := by decide +kernel
theorem dJx4a65c_add_7a177_60 : decode cJx4a65c_add_7a177 60 = .ok (.iadd, 1) := by decide +kernel
theorem dJx4a65c_add_7a177_61 : decode cJx4a65c_add_7a177 61 = .ok (.putfield 48, 3) := by decide +kernel
theorem dJx4a65c_add_7a177_64 : decode cJx4a65c_add_7a177 64 = .ok (.return_, 1) := by decide +kernel
theorem dX2_init_0 : decode cX2_init 0 = .ok (.aload_n 0, 1) := by decide +kernel
theorem dX2_init_1 : decode cX2_init 1 = .ok (.invokespecial 3, 3) := by decide +kernel
theorem dX2_init_4 : decode cX2_init 4 = .ok (.aload_n 0, 1) := by decide +kernel
theorem dX2_init_5 : decode cX2_init 5 = .ok (.iload_n 1, 1) := by decide +kernel
theorem dX2_init_6 : decode cX2_init 6 = .ok (.putfield 9, 3) := by decide +kernel
theorem dX2_init_9 : decode cX2_init 9 = .ok (.aload_n 0, 1) := by decide +kernel
theorem dX2_init_10 : decode cX2_init 10 = .ok (.iload_n 2, 1) := by decide +kernel
theorem dX2_init_11 : decode cX2_init 11 = .ok (.putfield 15, 3) := by decide +kernel
theorem dX2_init_14 : decode cX2_init 14 = .ok (.aload_n 0, 1) := by decide +kernel
theorem dX2_init_15 : decode cX2_init 15 = .ok (.iload_n 3, 1) := by decide +kernel
theorem dX2_init_16 : decode cX2_init 16 = .ok (.putfield 18, 3) := by decide +kernel
theorem dX2_init_19 : decode cX2_init 19 = .ok (.aload_n 0, 1) := by decide +kernel
theorem dX2_init_20 : decode cX2_init 20 = .ok (.iload 4, 2) := by decide +kernel
theorem dX2_init_22 : decode cX2_init 22 = .ok (.putfield 21, 3) := by decide +kernel
theorem dX2_init_25 : decode cX2_init 25 = .ok (.aload_n 0, 1) := by decide +kernel
theorem dX2_init_26 : decode cX2_init 26 = .ok (.iload 5, 2) := by decide +kernel
theorem dX2_init_28 : decode cX2_init 28 = .ok (.putfield 24, 3) := by decide +kernel
theorem dX2_init_31 : decode cX2_init 31 = .ok (.aload_n 0, 1) := by decide +kernel
theorem dX2_init_32 : decode cX2_init 32 = .ok (.iload 6, 2) := by decide +kernel
theorem dX2_init_34 : decode cX2_init 34 = .ok (.putfield 27, 3) := by decide +kernel
theorem dX2_init_37 : decode cX2_init 37 = .ok (.aload_n 0, 1) := by decide +kernel
theorem dX2_init_38 : decode cX2_init 38 = .ok (.iconst 0, 1) := by decide +kernel
theorem dX2_init_39 : decode cX2_init 39 = .ok (.putfield 30, 3) := by decide +kernel
theorem dX2_init_42 : decode cX2_init 42 = .ok (.aload_n 0, 1) := by decide +kernel
theorem dX2_init_43 : decode cX2_init 43 = .ok (.bipush 10, 2) := by decide +kernel
theorem dX2_init_45 : decode cX2_init 45 = .ok (.putfield 33, 3) := by decide +kernel
theorem dX2_init_48 : decode cX2_init 48 = .ok (.return_, 1) := by decide +kernel
theorem dX1_init_0 : decode cX1_init 0 = .ok (.aload_n 0, 1) := by decide +kernel
theorem dX1_init_1 : decode cX1_init 1 = .ok (.invokespecial 3, 3) := by decide +kernel
theorem dX1_init_4 : decode cX1_init 4 = .ok (.aload_n 0, 1) := by decide +kernel
theorem dX1_init_5 : decode cX1_init 5 = .ok (.iload_n 1, 1) := by decide +kernel
theorem dX1_init_6 : decode cX1_init 6 = .ok (.putfield 9, 3) := by decide +kernel
theorem dX1_init_9 : decode cX1_init 9 = .ok (.aload_n 0, 1) := by decide +kernel
theorem dX1_init_10 : decode cX1_init 10 = .ok (.iload_n 2, 1) := by decide +kernel
theorem dX1_init_11 : decode cX1_init 11 = .ok (.putfield 15, 3) := by decide +kernel
theorem dX1_init_14 : decode cX1_init 14 = .ok (.aload_n 0, 1) := by decide +kernel
theorem dX1_init_15 : decode cX1_init 15 = .ok (.iload_n 3, 1) := by decide +kernel
theorem dX1_init_16 : decode cX1_init 16 = .ok (.putfield 18, 3) := by decide +kernel
theorem dX1_init_19 : decode cX1_init 19 = .ok (.aload_n 0, 1) := by decide +kernel
theorem dX1_init_20 : decode cX1_init 20 = .ok (.iload 4, 2) := by decide +kernel
theorem dX1_init_22 : decode cX1_init 22 = .ok (.putfield 21, 3) := by decide +kernel
theorem dX1_init_25 : decode cX1_init 25 = .ok (.aload_n 0, 1) := by decide +kernel
theorem dX1_init_26 : decode cX1_init 26 = .ok (.iload 5, 2) := by decide +kernel
theorem dX1_init_28 : decode cX1_init 28 = .ok (.putfield 24, 3) := by decide +kernel
theorem dX1_init_31 : decode cX1_init 31 = .ok (.aload_n 0, 1) := by decide +kernel
theorem dX1_init_32 : decode cX1_init 32 = .ok (.iload 6, 2) := by decide +kernel
theorem dX1_init_34 : decode cX1_init 34 = .ok (.putfield 27, 3) := by decide +kernel
theorem dX1_init_37 : decode cX1_init 37 = .ok (.aload_n 0, 1) := by decide +kernel
theorem dX1_init_38 : decode cX1_init 38 = .ok (.iconst 0, 1) := by decide +kernel
theorem dX1_init_39 : decode cX1_init 39 = .ok (.putfield 31, 3) := by decide +kernel
theorem dX1_init_42 : decode cX1_init 42 = .ok (.aload_n 0, 1) := by decide +kernel
theorem dX1_init_43 : decode cX1_init 43 = .ok (.bipush (-9), 2) := by decide +kernel
theorem dX1_init_45 : decode cX1_init 45 = .ok (.putfield 34, 3) := by decide +kernel
theorem dX1_init_48 : decode cX1_init 48 = .ok (.aload_n 0, 1) := by decide +kernel
theorem dX1_init_49 : decode cX1_init 49 = .ok (.bipush (-9), 2) := by decide +kernel
theorem dX1_init_51 : decode cX1_init 51 = .ok (.putfield 37, 3) := by decide +kernel
theorem dX1_init_54 : decode cX1_init 54 = .ok (.return_, 1) := by decide +kernel
end
section
/-! plain facts -/
theorem pz_lt {x y : Int32} (h : x < y) : x.toInt < y.toInt := Int32.lt_iff_toInt_lt.mp h
theorem pz_nlt {x y : Int32} (h : ¬ x < y) : y.toInt ≤ x.toInt := Int.not_lt.mp (fun q => h (Int32.lt_iff_toInt_lt.mpr q))
theorem pz_le {x y : Int32} (h : x ≤ y) : x.toInt ≤ y.toInt := Int32.le_iff_toInt_le.mp h
theorem pz_nle {x y : Int32} (h : ¬ x ≤ y) : y.toInt < x.toInt := Int.not_le.mp (fun q => h (Int32.le_iff_toInt_le.mpr q))
theorem pz_ge {x y : Int32} (h : y ≤ x) : y.toInt ≤ x.toInt := pz_le h
theorem pz_nge {x y : Int32} (h : ¬ y ≤ x) : x.toInt < y.toInt := pz_nle h
theorem pz_gt {x y : Int32} (h : y < x) : y.toInt < x.toInt := pz_lt h
theorem pz_ngt {x y : Int32} (h : ¬ y < x) : x.toInt ≤ y.toInt := pz_nlt h
theorem pz_eq {x y : Int32} (h : x = y) : x.toInt = y.toInt := congrArg Int32.toInt h
theorem pz_neq {x y : Int32} (h : ¬ x = y) : ¬ x.toInt = y.toInt := fun q => h (Int32.toInt_inj.mp q)
theorem pz_nne {x y : Int32} (h : ¬ ¬ x = y) : x.toInt = y.toInt := congrArg Int32.toInt (Classical.not_not.mp h)
theorem pz_id {a : Prop} (h : a) : a := h
theorem pz_case {x : Int32} {n : Nat} (h : ¬ (x.toInt < 0 ∨ (n : Int) < x.toInt)) (hn : n < 2 ^ 31) : ∃ j : Nat, j ≤ n ∧ x = nI j := by
  have h0 : ¬ x < 0 := fun q => h (Or.inl (pz_lt q))
  obtain ⟨j, hj, e⟩ := nI_of h0
  refine ⟨j, ?_, e⟩
  have e2 : x.toInt = (j : Int) := by rw [e]; exact nI_toInt hj
  omega
theorem pz_nI {x : Int32} {n : Nat} (h : 0 ≤ x.toInt) (h2 : x.toInt ≤ (n : Int)) (hn : n < 2 ^ 31 := by decide) : ∃ N : Nat, N ≤ n ∧ x = nI N := pz_case (fun q => by omega) hn
theorem pz_cases18 {x : Int32} (h : ¬ (x.toInt < 0 ∨ 17 < x.toInt)) : x = 0 ∨ x = 1 ∨ x = 2 ∨ x = 3 ∨ x = 4 ∨ x = 5 ∨ x = 6 ∨ x = 7 ∨ x = 8 ∨ x = 9 ∨ x = 10 ∨ x = 11 ∨ x = 12 ∨ x = 13 ∨ x = 14 ∨ x = 15 ∨ x = 16 ∨ x = 17 := by
  obtain ⟨j, hj, e⟩ := pz_case (n := 17) h (by decide)
  subst e
  have hh : ∀ j : Nat, j < 18 → (nI j = 0 ∨ nI j = 1 ∨ nI j = 2 ∨ nI j = 3 ∨ nI j = 4 ∨ nI j = 5 ∨ nI j = 6 ∨ nI j = 7 ∨ nI j = 8 ∨ nI j = 9 ∨ nI j = 10 ∨ nI j = 11 ∨ nI j = 12 ∨ nI j = 13 ∨ nI j = 14 ∨ nI j = 15 ∨ nI j = 16 ∨ nI j = 17) := by decide +kernel
  exact hh j (by omega)
theorem pz_in10 {x y : Int32} (e : y = x - 10) (h1 : 11 ≤ x.toInt) (h2 : x.toInt ≤ 16) : vp_in y 7 := by
  have h0 : ¬ x < 0 := fun q => by have := pz_lt q; have h9 : (0 : Int32).toInt = 0 := by decide
                                   omega
  obtain ⟨j, hj, ej⟩ := nI_of h0
  have e2 : x.toInt = (j : Int) := by rw [ej]; exact nI_toInt hj
  have e3 : y = nI (j - 10) := by rw [e, ej]; exact pk_sub (a := j) (b := 10) (by omega)
  rw [e3]
  exact vp_in_nI (by omega) (by decide)
/-! the world at a method's beginning -/
def pzPre (D : va_G) (cl : List vw_C) (W : va_W) (tys : List (ClassId × FieldType)) (sz : Nat) (U : State) : Prop := U.heap.size = sz ∧ va_P D cl W U.heap ∧ va_K D cl tys U ∧ va_D (fun _ => True) W
/-- the empty row of ArrayList, and what the rows of objects need -/
def pzS (z : Nat) (A : Nat → Prop) (U : State) (H : Heap) : Prop := va_Z "java/util/ArrayList" "DEFAULTCAPACITY_EMPTY_ELEMENTDATA" "[Ljava/lang/Object;" (.ref z) A U H ∧ va_T (.object "java/lang/Object") z 0 (fun _ => .null) A U H ∧ va_AO "java/lang/Object" U ∧ va_Nw (.castable "FrontDoor$Server" "java/lang/Object") U ∧ va_Nw (.castable "FrontDoor$Call" "java/lang/Object") U
/-- an object that is put into a row -/
def pzE (q : Nat) (A : Nat → Prop) (U : State) (H : Heap) : Prop := ∃ C : String, va_Nw (.castable C "java/lang/Object") U ∧ (∃ cell : Cell, H[q]? = some cell ∧ cell.vm.isStatics = false ∧ U.vm.findClass C = some cell.cls) ∧ ¬ A q
def pzPreZ (D : va_G) (cl : List vw_C) (W : va_W) (tys : List (ClassId × FieldType)) (sz z : Nat) (U : State) : Prop := pzPre D cl W tys sz U ∧ pzS z (va_A W sz) U U.heap
def pzPreE (D : va_G) (cl : List vw_C) (W : va_W) (tys : List (ClassId × FieldType)) (sz z q : Nat) (U : State) : Prop := pzPre D cl W tys sz U ∧ pzS z (va_A W sz) U U.heap ∧ pzE q (va_A W sz) U U.heap
theorem pz_blind {av : List Value} {D : va_G} {cl : List vw_C} {W : va_W} {tys : List (ClassId × FieldType)} {sz : Nat} : FrameBlind (va_Pc av (pzPre D cl W tys sz)) := fun a U g mk q => by
  obtain ⟨q0, q1, qP, qK, qD⟩ := q
  exact ⟨q0, q1, qP, va_K.moved (u := U) (U := U.calling g mk a) (Vm.Alike.refl U.vm) qK, qD⟩
theorem pz_Ssame {z : Nat} {A : Nat → Prop} {u U : State} (hvm : u.vm = U.vm) {H : Heap} (h : pzS z A u H) : pzS z A U H := by
  have ha : u.vm.Alike U.vm := by rw [hvm]; exact Vm.Alike.refl _
  exact ⟨h.1.moved ha, h.2.1.moved ha, h.2.2.1.moved ha, va_Nw.same rfl hvm h.2.2.2.1, va_Nw.same rfl hvm h.2.2.2.2⟩
theorem pz_Esame {q : Nat} {A : Nat → Prop} {u U : State} (hvm : u.vm = U.vm) {H : Heap} (h : pzE q A u H) : pzE q A U H := by
  obtain ⟨C, h1, h2, h3⟩ := h
  exact ⟨C, va_Nw.same rfl hvm h1, by rw [← hvm]; exact h2, h3⟩
theorem pz_blindZ {av : List Value} {D : va_G} {cl : List vw_C} {W : va_W} {tys : List (ClassId × FieldType)} {sz z : Nat} : FrameBlind (va_Pc av (pzPreZ D cl W tys sz z)) := fun a U g mk q => by
  obtain ⟨q0, ⟨q1, qP, qK, qD⟩, qZ⟩ := q
  exact ⟨q0, ⟨q1, qP, va_K.moved (u := U) (U := U.calling g mk a) (Vm.Alike.refl U.vm) qK, qD⟩, pz_Ssame (u := U) (U := U.calling g mk a) rfl qZ⟩
theorem pz_blindE {av : List Value} {D : va_G} {cl : List vw_C} {W : va_W} {tys : List (ClassId × FieldType)} {sz z x : Nat} : FrameBlind (va_Pc av (pzPreE D cl W tys sz z x)) := fun a U g mk q => by
  obtain ⟨q0, ⟨q1, qP, qK, qD⟩, qZ, qE⟩ := q
  exact ⟨q0, ⟨q1, qP, va_K.moved (u := U) (U := U.calling g mk a) (Vm.Alike.refl U.vm) qK, qD⟩, pz_Ssame (u := U) (U := U.calling g mk a) rfl qZ, pz_Esame (u := U) (U := U.calling g mk a) rfl qE⟩
theorem pz_at {D : va_G} {cl : List vw_C} {W : va_W} {tys : List (ClassId × FieldType)} {H : Heap} {B : Nat → Prop} {s U : State} (hP : va_P D cl W H) (hK : va_K D cl tys s) (hD : va_D B W) (hU : U.heap = H) (hW : s.WarmedH U.vm) : pzPre D cl W tys H.size U := ⟨by rw [hU], by rw [hU]; exact hP, va_K.moved hW.alike hK, hD.weaken (fun _ _ _ _ => trivial)⟩
theorem pz_f {A0 : Nat → Prop} {H0 H : Heap} {locs : List Loc} (hA : ∀ q : Nat, H0.size ≤ q → A0 q) (hS : va_S A0 H0 H locs) : ∀ q, va_A [] H.size q → A0 q := by
  intro q h
  rcases h with ⟨k, e, h⟩ | h
  · simp at h
  · exact hA q (Nat.le_trans hS.1 h)
theorem pz_keep {D : va_G} {cl : List vw_C} {W : va_W} {H H1 : Heap} (hP : va_P D cl W H) (hk : ∀ q : Nat, q < H.size → ¬ va_A [] H.size q → H1[q]? = H[q]?) : va_P D cl W H1 := by
  refine hP.kept (fun k q h => ?_)
  have hl := (hP k q h).lt
  refine hk q.1 hl (fun h9 => ?_)
  rcases h9 with ⟨k, e, h⟩ | h
  · simp at h
  · exact absurd h (Nat.not_le.mpr hl)
theorem pz_nilP {D : va_G} {cl : List vw_C} {H : Heap} : va_P D cl [] H := fun k q h => by simp at h
theorem pz_nilD {A : Nat → Prop} : va_D A [] := ⟨fun i j p q h => by simp at h, fun k q h => by simp at h⟩
theorem pz_Zat {z : Nat} {A : Nat → Prop} {s U : State} {H : Heap} {locs : List Loc} {W : va_W} (hZ : pzS z A s s.heap) (hS : va_S A s.heap H locs) (hF : ∀ q, va_A W H.size q → A q) (hU : U.heap = H) (hW : s.WarmedH U.vm) : pzS z (va_A W H.size) U U.heap := by
  rw [hU]
  exact ⟨((hZ.1.kept hS.2.1).narrow hF).moved hW.alike, ((hZ.2.1.kept hS.2.1).narrow hF).moved hW.alike, hZ.2.2.1.moved hW.alike, va_Nw.warmC hW hZ.2.2.2.1, va_Nw.warmC hW hZ.2.2.2.2⟩
theorem pz_Ekept {q : Nat} {A : Nat → Prop} {s : State} {H : Heap} {locs : List Loc} (hE : pzE q A s s.heap) (hS : va_S A s.heap H locs) : pzE q A s H := by
  obtain ⟨C, h1, ⟨cell, h2, h3⟩, h4⟩ := hE
  have hl : q < s.heap.size := (Array.getElem?_eq_some_iff.mp h2).1
  exact ⟨C, h1, ⟨cell, by rw [hS.2.1 q hl h4]; exact h2, h3⟩, h4⟩
theorem pz_Eat {q : Nat} {A : Nat → Prop} {s U : State} {H : Heap} {locs : List Loc} {W : va_W} (hE : pzE q A s s.heap) (hS : va_S A s.heap H locs) (hF : ∀ q, va_A W H.size q → A q) (hU : U.heap = H) (hW : s.WarmedH U.vm) : pzE q (va_A W H.size) U U.heap := by
  obtain ⟨C, h1, ⟨cell, h2, h3, h5⟩, h4⟩ := pz_Ekept hE hS
  rw [hU]
  exact ⟨C, va_Nw.warmC hW h1, ⟨cell, h2, h3, by rw [hW.alike.findClass]; exact h5⟩, fun h => h4 (hF q h)⟩
theorem pzE.at {q : Nat} {A : Nat → Prop} {s : State} {H : Heap} {locs : List Loc} (hE : pzE q A s s.heap) (hS : va_S A s.heap H locs) : va_Any "java/lang/Object" s H q := by
  obtain ⟨C, h1, ⟨cell, h2, h3, h5⟩, h4⟩ := pz_Ekept hE hS
  obtain ⟨kC, hkC, -⟩ := Vm.findClass_spec h5
  exact ⟨cell, h2, h3, ⟨kC, hkC⟩, fun comp h => vb_asgC h1 comp _ h h5⟩
theorem pz_rAny {D : va_G} {cl : List vw_C} {W : va_W} {tys : List (ClassId × FieldType)} {H : Heap} {s : State} {a q0 ci : Nat} {fs : List Value} {r : vw_C} (hK : va_K D cl tys s) (hP : va_P D cl W H) (he : W[q0]? = some (a, .inr (ci, fs))) (hc : cl[ci]? = some r) (hca : va_Nw (.castable r.1 "java/lang/Object") s) : pzE a (fun _ => False) s H := by
  obtain ⟨cell, h1, h2, h3⟩ := va_recv hK hP hc he
  exact ⟨r.1, hca, ⟨cell, h1, h2, h3⟩, fun h => h⟩
theorem pz_notA {D : va_G} {cl : List vw_C} {W wc : va_W} {B : Nat → Prop} {H : Heap} {a : Nat} {x : va_E} (hP : va_P D cl W H) (hD : va_D B W) (q0 : Nat) (is : List Nat) (he : W[q0]? = some (a, x)) (hC : is.map (fun i => W[i]?) = wc.map some) (hn : q0 ∉ is) : ¬ va_A wc H.size a := by
  rintro (⟨k, e, h⟩ | h)
  · have hk : k < wc.length := by
      rcases Nat.lt_or_ge k wc.length with q | q
      · exact q
      · rw [List.getElem?_eq_none q] at h; cases h
    have hl : is.length = wc.length := by have := congrArg List.length hC; simpa using this
    have h1 : (wc.map some)[k]? = some (some (a, e)) := by rw [List.getElem?_map, h]; rfl
    rw [← hC, List.getElem?_map] at h1
    cases hi : is[k]? with
    | none => rw [hi] at h1; cases h1
    | some i =>
      rw [hi] at h1
      have h2 : W[i]? = some (a, e) := by simpa using h1
      have h3 := hD.1 i q0 _ _ h2 he rfl
      exact hn (h3 ▸ List.mem_of_getElem? hi)
  · exact absurd h (Nat.not_le.mpr (hP q0 _ he).lt)
theorem pz_Enew {q : Nat} {W : va_W} {s U : State} {H : Heap} (hE : pzE q (fun _ => False) s H) (hn : ¬ va_A W H.size q) (hU : U.heap = H) (hW : s.WarmedH U.vm) : pzE q (va_A W H.size) U U.heap := by
  obtain ⟨C, h1, ⟨cell, h2, h3, h5⟩, -⟩ := hE
  rw [hU]
  exact ⟨C, va_Nw.warmC hW h1, ⟨cell, h2, h3, by rw [hW.alike.findClass]; exact h5⟩, hn⟩
/-! what the first call on a fresh object answers -/
def ex_rule (a : Int32) : Int32 := if a.toInt < 0 ∨ 3 < a.toInt then -1 else 0
def ex_limit (a : Int32) : Int32 := if a.toInt < 1 then -4 else if 10 < a.toInt then -6 else 3
def ex_budget (a : Int32) : Int32 := if a.toInt < 0 then -4 else if 100 < a.toInt then -6 else 20
def ex_hedge (a : Int32) : Int32 := if a.toInt < 0 then -4 else if 500 < a.toInt then -6 else 0
def ex_pick (a : Int32) : Int32 := if a.toInt < 0 then -4 else if 65535 < a.toInt then -6 else -9
def ex_ticks (a : Int32) : Int32 := if a.toInt < 1 then -4 else if 20000 < a.toInt then -6 else 0
def ex_count (a : Int32) : Int32 := if a.toInt < 0 ∨ 17 < a.toInt then -9 else 0
def ex_server (w z r p b : Int32) : Int32 := if z.toInt < 0 ∨ 4 ≤ z.toInt then -1 else if w.toInt < 1 ∨ r.toInt < 1 ∨ p.toInt < 1 ∨ b.toInt < 0 then -4 else if 100 < w.toInt ∨ 20 < r.toInt ∨ 200 < p.toInt ∨ 20 < b.toInt then -6 else 0
def ex_call (k g n : Int32) : Int32 := if k.toInt < 0 ∨ g.toInt < 0 ∨ n.toInt < 1 then -4 else if 65535 < k.toInt ∨ 3 < g.toInt ∨ 2000 < n.toInt then -6 else 0
end
section
set_option maxHeartbeats 4000000 in
set_option maxRecDepth 100000 in
theorem k_Jxa1e45_init_da8c8 (l : Launch) (dC : Nat → ClassId) (dI : Nat → Nat → Nat) (h0 : Nat) (sz : Nat) : Met l yJxa1e45_init_da8c8 wsJxa1e45_init_da8c8 ({ frames := 1, cells := 0, slots := 0, locals := 12 }) (va_Pc [.ref h0] (pzPre (dC, dI) vwCl [] [] sz)) (va_Qv (fun _ : Unit => True) (fun _ _ => True) (va_A [] sz)) 0 0 (va_A [] sz) := by
  refine Met.ofW (cc := cJxa1e45_init_da8c8) (maxL := 1) (ret := none) (by decide) rfl ?_
  intro p e s m args below meth c s₁ B hml hv
  obtain ⟨rfl, hsz, hP, hK, hD0⟩ := hv
  have hx := B.exec
  have hb := B.bytes
  have hr := B.returns
  have hts := atoms_spec (ws := wsJxa1e45_init_da8c8) B.pre
  have hown : s.vm.findClass RJxa1e45 = some m.cls := findClass_of_methodNamed B.named
  have hlocks := B.notSynchronized
  have hin : meth.name = "<init>" := (name_of_methodNamed B.named B.method).1
  subst hsz
  have hA : ∀ q : Nat, s.heap.size ≤ q → va_A [] s.heap.size q := fun q h => Or.inr h
  have hD := hD0
  generalize va_A [] s.heap.size = A at hA ⊢
  have hS : va_S A s.heap s.heap [] := va_S.rf
  have hP : va_P (dC, dI) vwCl [] s.heap := hP
  have hl := lv_entry ([.ref h0]) (n := 1) (Nat.le_of_ble_eq_true rfl)
  rw [lg_entry_eq]
  generalize (lg_sl ([.ref h0]) ++ List.replicate (1 - (lg_sl ([.ref h0])).length) Slot.unset).toArray = ls at hl ⊢
  have hl : lv_has ls 1 [(0, .ref h0)] := hl
  refine lv_aload_n hx hb dJxa1e45_init_da8c8_0 rfl (lv_at hl 0 rfl) ?_
  refine W.objInit hx hb hown (hts (.methodLink RJxa1e45 1 objectInit) (by decide +kernel)) (hts (.instanceMethod objectInit) (by decide +kernel)) (hts (.code objectInit ⟨#[0xb1]⟩ 1 none) (by decide +kernel)) rfl (by rw [hml]; exact hl.1) rfl dJxa1e45_init_da8c8_1 (Nat.le_of_ble_eq_true rfl) (Nat.le_of_ble_eq_true rfl) ?_
  refine W.eq (g2 := F0 m 4 ls []) rfl ?_
  exact W.vret hx hb hr (fun t ht hW => ⟨⟨(), rfl, trivial, trivial⟩, hS.F ht⟩) hS.2.2 dJxa1e45_init_da8c8_4

set_option maxHeartbeats 4000000 in
set_option maxRecDepth 100000 in
theorem k_Jxc12de_init_da8c8 (l : Launch) (dC : Nat → ClassId) (dI : Nat → Nat → Nat) (h0 : Nat) (sz : Nat) : Met l yJxc12de_init_da8c8 wsJxc12de_init_da8c8 ({ frames := 2, cells := 0, slots := 0, locals := 32 }) (va_Pc [.ref h0] (pzPre (dC, dI) vwCl [(h0, .inr (0, [.int 0, .null, .int 0]))] [] sz)) (va_Qv (fun _ : Unit => True) (fun (_ : Unit) (t : State) => va_P (dC, dI) vwCl [(h0, .inr (0, [.int 0, .null, .int 0]))] t.heap ∧ va_K (dC, dI) vwCl [] t ∧ va_D (va_A [(h0, .inr (0, [.int 0, .null, .int 0]))] sz) [(h0, .inr (0, [.int 0, .null, .int 0]))]) (va_A [(h0, .inr (0, [.int 0, .null, .int 0]))] sz)) 0 0 (va_A [(h0, .inr (0, [.int 0, .null, .int 0]))] sz) := by
  refine Met.ofW (cc := cJxc12de_init_da8c8) (maxL := 1) (ret := none) (by decide) rfl ?_
  intro p e s m args below meth c s₁ B hml hv
  obtain ⟨rfl, hsz, hP, hK, hD0⟩ := hv
  have hx := B.exec
  have hb := B.bytes
  have hr := B.returns
  have hts := atoms_spec (ws := wsJxc12de_init_da8c8) B.pre
  have hown : s.vm.findClass RJxc12de = some m.cls := findClass_of_methodNamed B.named
  have hlocks := B.notSynchronized
  have hin : meth.name = "<init>" := (name_of_methodNamed B.named B.method).1
  subst hsz
  have hD := hD0.self (sz := s.heap.size)
  generalize hAe : va_A [(h0, .inr (0, [.int 0, .null, .int 0]))] s.heap.size = A at hD ⊢
  have hA : ∀ q : Nat, s.heap.size ≤ q → A q := fun q h => by rw [← hAe]; exact Or.inr h
  have hS : va_S A s.heap s.heap [] := va_S.rf
  have hP : va_P (dC, dI) vwCl [(h0, .inr (0, [.int 0, .null, .int 0]))] s.heap := hP
  have hl := lv_entry ([.ref h0]) (n := 1) (Nat.le_of_ble_eq_true rfl)
  rw [lg_entry_eq]
  generalize (lg_sl ([.ref h0]) ++ List.replicate (1 - (lg_sl ([.ref h0])).length) Slot.unset).toArray = ls at hl ⊢
  have hl : lv_has ls 1 [(0, .ref h0)] := hl
  refine lv_aload_n hx hb dJxc12de_init_da8c8_0 rfl (lv_at hl 0 rfl) ?_
  have hPc := hP.sub (ws' := []) [] rfl
  have hDc := hD.sub (ws' := []) [] (by decide) rfl
  have hKc := hK.sub (tys' := []) [] rfl
  have hFc := pz_f hA hS
  refine va_callv (va_runI (As := []) (rest := []) ⟨hx, hb, hml, hown, hts⟩ (k_Jxa1e45_init_da8c8 l dC dI h0 s.heap.size) (cwI 0 hts gJxc12de_init_da8c8_Jxa1e45_init_da8c8 rfl rfl rfl (hts (.initialized RJxa1e45) (by decide +kernel)) (hts (.methodLink RJxc12de 1 yJxa1e45_init_da8c8) (by decide +kernel)) (hts (.instanceMethod yJxa1e45_init_da8c8) (by decide +kernel)) rfl (by decide +kernel) ⟨Nat.le_of_ble_eq_true rfl, Nat.le_of_ble_eq_true rfl⟩) ⟨pz_blind, fun U hU hW => ⟨rfl, pz_at hPc hKc hDc hU hW⟩⟩ rfl rfl hl.1 rfl (lv_room (Nat.le_of_ble_eq_true rfl)) dJxc12de_init_da8c8_1 ⟨Nat.le_of_ble_eq_true rfl, Nat.le_of_ble_eq_true rfl⟩) hS (fun q _ h => hFc q h) hFc (fun u t H locs ht hvm hw hB hz1 hk1 hS => ?_)
  have hP := pz_keep hP hk1
  refine W.eq (g2 := F0 m 4 ls []) rfl ?_
  refine lv_aload_n hx hb dJxc12de_init_da8c8_4 rfl (lv_at hl 0 rfl) ?_
  refine lv_iconst (v := 0) hx hb dJxc12de_init_da8c8_5 (by decide) ?_
  refine va_put (D := (dC, dI)) (ci := 0) (v := .int 0) (ty := .int) (C := RJx4a65c) (T := TJx4a65c) (N := 3) hx hb hts (fun _ h => List.mem_cons_of_mem _ (List.mem_append_right _ h)) tyJx4a65c tyJx4a65c_ok nmJx4a65c hown hK hP hD hS 0 rfl rfl 0 (by decide) (hts (.fieldLink RJxc12de 7 "java/util/AbstractList" "modCount" "I") (by decide +kernel)) (fun _ h9 => h9) rfl (by decide +kernel) rfl rfl (Nat.le_of_ble_eq_true rfl) dJxc12de_init_da8c8_6 (fun H locs hP hD hS => ?_)
  have hP : va_P (dC, dI) vwCl [(h0, .inr (0, [.int 0, .null, .int 0]))] H := hP
  have hD : va_D A [(h0, .inr (0, [.int 0, .null, .int 0]))] := hD
  have hP9 := hP.sub (ws' := [(h0, .inr (0, [.int 0, .null, .int 0]))]) [0] rfl
  have hD9 := hD.sub (ws' := [(h0, .inr (0, [.int 0, .null, .int 0]))]) [0] (by decide) rfl
  have hK9 := hK.sub (tys' := []) [] rfl
  exact W.vret hx hb hr (fun t ht hW => ⟨⟨(), rfl, trivial, ⟨by rw [ht]; exact hP9, va_K.moved hW.alike hK9, hD9⟩⟩, hS.F ht⟩) hS.2.2 dJxc12de_init_da8c8_9

set_option maxHeartbeats 4000000 in
set_option maxRecDepth 100000 in
theorem k_Jx4a65c_init_da8c8 (l : Launch) (dC : Nat → ClassId) (dI : Nat → Nat → Nat) (h0 : Nat) (z : Nat) (sz : Nat) : Met l yJx4a65c_init_da8c8 wsJx4a65c_init_da8c8 ({ frames := 3, cells := 0, slots := 0, locals := 52 }) (va_Pc [.ref h0] (pzPreZ (dC, dI) vwCl [(h0, .inr (0, [.int 0, .null, .int 0]))] [] sz z)) (va_Qv (fun _ : Unit => True) (fun (_ : Unit) (t : State) => va_P (dC, dI) vwCl [(h0, .inr (0, [.int 0, .ref z, .int 0]))] t.heap ∧ va_K (dC, dI) vwCl [] t ∧ va_D (va_A [(h0, .inr (0, [.int 0, .null, .int 0]))] sz) [(h0, .inr (0, [.int 0, .ref z, .int 0]))]) (va_A [(h0, .inr (0, [.int 0, .null, .int 0]))] sz)) 0 0 (va_A [(h0, .inr (0, [.int 0, .null, .int 0]))] sz) := by
  refine Met.ofW (cc := cJx4a65c_init_da8c8) (maxL := 1) (ret := none) (by decide) rfl ?_
  intro p e s m args below meth c s₁ B hml hv
  obtain ⟨rfl, ⟨hsz, hP, hK, hD0⟩, hZ⟩ := hv
  have hx := B.exec
  have hb := B.bytes
  have hr := B.returns
  have hts := atoms_spec (ws := wsJx4a65c_init_da8c8) B.pre
  have hown : s.vm.findClass RJx4a65c = some m.cls := findClass_of_methodNamed B.named
  have hlocks := B.notSynchronized
  have hin : meth.name = "<init>" := (name_of_methodNamed B.named B.method).1
  subst hsz
  have hD := hD0.self (sz := s.heap.size)
  generalize hAe : va_A [(h0, .inr (0, [.int 0, .null, .int 0]))] s.heap.size = A at hD hZ ⊢
  have hA : ∀ q : Nat, s.heap.size ≤ q → A q := fun q h => by rw [← hAe]; exact Or.inr h
  have hS : va_S A s.heap s.heap [] := va_S.rf
  have hP : va_P (dC, dI) vwCl [(h0, .inr (0, [.int 0, .null, .int 0]))] s.heap := hP
  have hl := lv_entry ([.ref h0]) (n := 1) (Nat.le_of_ble_eq_true rfl)
  rw [lg_entry_eq]
  generalize (lg_sl ([.ref h0]) ++ List.replicate (1 - (lg_sl ([.ref h0])).length) Slot.unset).toArray = ls at hl ⊢
  have hl : lv_has ls 1 [(0, .ref h0)] := hl
  refine lv_aload_n hx hb dJx4a65c_init_da8c8_0 rfl (lv_at hl 0 rfl) ?_
  have hPc := hP.sub (ws' := [(h0, .inr (0, [.int 0, .null, .int 0]))]) [0] rfl
  have hDc := hD.sub (ws' := [(h0, .inr (0, [.int 0, .null, .int 0]))]) [0] (by decide) rfl
  have hKc := hK.sub (tys' := []) [] rfl
  have hFc := va_free (wc := [(h0, .inr (0, [.int 0, .null, .int 0]))]) hD hS hA [0] rfl
  refine va_callv (va_runI (As := []) (rest := []) ⟨hx, hb, hml, hown, hts⟩ (k_Jxc12de_init_da8c8 l dC dI h0 s.heap.size) (cwI 0 hts gJx4a65c_init_da8c8_Jxc12de_init_da8c8 rfl rfl rfl (hts (.initialized RJxc12de) (by decide +kernel)) (hts (.methodLink RJx4a65c 1 yJxc12de_init_da8c8) (by decide +kernel)) (hts (.instanceMethod yJxc12de_init_da8c8) (by decide +kernel)) rfl (by decide +kernel) ⟨Nat.le_of_ble_eq_true rfl, Nat.le_of_ble_eq_true rfl⟩) ⟨pz_blind, fun U hU hW => ⟨rfl, pz_at hPc hKc hDc hU hW⟩⟩ rfl rfl hl.1 rfl (lv_room (Nat.le_of_ble_eq_true rfl)) dJx4a65c_init_da8c8_1 ⟨Nat.le_of_ble_eq_true rfl, Nat.le_of_ble_eq_true rfl⟩) hS (fun q _ h => hFc q h) hFc (fun u t H locs ht hvm hw hB hz1 hk1 hS => ?_)
  obtain ⟨hP1, hK1, hD1⟩ := hB
  rw [ht] at hP1
  have hK1 := va_K.moved hvm.symm hK1
  obtain ⟨hP, hD⟩ := va_join (wr := []) (w1 := [(h0, .inr (0, [.int 0, .null, .int 0]))]) hP hD [0] [] rfl rfl (by decide) (by decide) hk1 hFc hP1 hD1
  have hK := hK.app hK1
  have hK : va_K (dC, dI) vwCl [] s := hK
  have hP : va_P (dC, dI) vwCl [(h0, .inr (0, [.int 0, .null, .int 0]))] H := hP
  have hD : va_D A [(h0, .inr (0, [.int 0, .null, .int 0]))] := hD
  refine W.eq (g2 := F0 m 4 ls []) rfl ?_
  refine lv_aload_n hx hb dJx4a65c_init_da8c8_4 rfl (lv_at hl 0 rfl) ?_
  refine va_gets hx hb hZ.1 hS hown (hts (.fieldLink RJx4a65c 39 "java/util/ArrayList" "DEFAULTCAPACITY_EMPTY_ELEMENTDATA" "[Ljava/lang/Object;") (by decide +kernel)) (fun _ h9 => h9) dJx4a65c_init_da8c8_5 ?_
  refine va_put (D := (dC, dI)) (ci := 0) (v := .ref z) (ty := .array (.object "java/lang/Object")) (C := RJx4a65c) (T := TJx4a65c) (N := 3) hx hb hts (fun _ h => List.mem_cons_of_mem _ (List.mem_append_right _ h)) tyJx4a65c tyJx4a65c_ok nmJx4a65c hown hK hP hD hS 0 rfl rfl 1 (by decide) (hts (.fieldLink RJx4a65c 9 "java/util/ArrayList" "elementData" "[Ljava/lang/Object;") (by decide +kernel)) (fun _ h9 => h9) rfl (by decide +kernel) rfl rfl (Nat.le_of_ble_eq_true rfl) dJx4a65c_init_da8c8_8 (fun H locs hP hD hS => ?_)
  have hP : va_P (dC, dI) vwCl [(h0, .inr (0, [.int 0, .ref z, .int 0]))] H := hP
  have hD : va_D A [(h0, .inr (0, [.int 0, .ref z, .int 0]))] := hD
  have hP9 := hP.sub (ws' := [(h0, .inr (0, [.int 0, .ref z, .int 0]))]) [0] rfl
  have hD9 := hD.sub (ws' := [(h0, .inr (0, [.int 0, .ref z, .int 0]))]) [0] (by decide) rfl
  have hK9 := hK.sub (tys' := []) [] rfl
  exact W.vret hx hb hr (fun t ht hW => ⟨⟨(), rfl, trivial, ⟨by rw [ht]; exact hP9, va_K.moved hW.alike hK9, hD9⟩⟩, hS.F ht⟩) hS.2.2 dJx4a65c_init_da8c8_11

set_option maxHeartbeats 4000000 in
set_option maxRecDepth 100000 in
theorem k_Jx4a65c_size_8abf5 (l : Launch) (dC : Nat → ClassId) (dI : Nat → Nat → Nat) (h0 : Nat) (z : Nat) (sz : Nat) : Met l yJx4a65c_size_8abf5 wsJx4a65c_size_8abf5 ({ frames := 0, cells := 0, slots := 0, locals := 0 }) (va_Pc [.ref h0] (pzPre (dC, dI) vwCl [(h0, .inr (0, [.int 0, .ref z, .int 0]))] [] sz)) (va_Qi (fun (r : Int32) (_ : Unit) => r = 0) (fun _ _ => True) (va_A [] sz)) 0 0 (va_A [] sz) := by
  refine Met.ofW (cc := cJx4a65c_size_8abf5) (maxL := 1) (ret := (some .int)) (by decide) rfl ?_
  intro p e s m args below meth c s₁ B hml hv
  obtain ⟨rfl, hsz, hP, hK, hD0⟩ := hv
  have hx := B.exec
  have hb := B.bytes
  have hr := B.returns
  have hts := atoms_spec (ws := wsJx4a65c_size_8abf5) B.pre
  have hown : s.vm.findClass RJx4a65c = some m.cls := findClass_of_methodNamed B.named
  have hlocks := B.notSynchronized
  subst hsz
  have hA : ∀ q : Nat, s.heap.size ≤ q → va_A [] s.heap.size q := fun q h => Or.inr h
  have hD := hD0
  generalize va_A [] s.heap.size = A at hA ⊢
  have hS : va_S A s.heap s.heap [] := va_S.rf
  have hP : va_P (dC, dI) vwCl [(h0, .inr (0, [.int 0, .ref z, .int 0]))] s.heap := hP
  have hl := lv_entry ([.ref h0]) (n := 1) (Nat.le_of_ble_eq_true rfl)
  rw [lg_entry_eq]
  generalize (lg_sl ([.ref h0]) ++ List.replicate (1 - (lg_sl ([.ref h0])).length) Slot.unset).toArray = ls at hl ⊢
  have hl : lv_has ls 1 [(0, .ref h0)] := hl
  refine lv_aload_n hx hb dJx4a65c_size_8abf5_0 rfl (lv_at hl 0 rfl) ?_
  refine va_get (D := (dC, dI)) (ci := 0) (v := .int 0) (C := RJx4a65c) (T := TJx4a65c) (N := 3) hx hb hts (fun _ h => List.mem_cons_of_mem _ (List.mem_append_right _ h)) hown hK hP 0 rfl rfl 2 (by decide) (hts (.fieldLink RJx4a65c 48 "java/util/ArrayList" "size" "I") (by decide +kernel)) (fun _ h9 => h9) rfl dJx4a65c_size_8abf5_1 ?_
  exact W.iret (v := 0) hx hb hr (fun t ht hW => ⟨⟨0, (), rfl, rfl, trivial⟩, hS.F ht⟩) hS.2.2 dJx4a65c_size_8abf5_4

set_option maxHeartbeats 4000000 in
set_option maxRecDepth 100000 in
theorem k_Jx4a65c_rangeCheckForAdd_d00df (l : Launch) (dC : Nat → ClassId) (dI : Nat → Nat → Nat) (h0 : Nat) (z : Nat) (sz : Nat) : Met l yJx4a65c_rangeCheckForAdd_d00df wsJx4a65c_rangeCheckForAdd_d00df ({ frames := 0, cells := 0, slots := 0, locals := 0 }) (va_Pc [.ref h0, .int 0] (pzPre (dC, dI) vwCl [(h0, .inr (0, [.int 0, .ref z, .int 0]))] [] sz)) (va_Qv (fun _ : Unit => True) (fun _ _ => True) (va_A [] sz)) 0 0 (va_A [] sz) := by
  refine Met.ofW (cc := cJx4a65c_rangeCheckForAdd_d00df) (maxL := 2) (ret := none) (by decide) rfl ?_
  intro p e s m args below meth c s₁ B hml hv
  obtain ⟨rfl, hsz, hP, hK, hD0⟩ := hv
  have hx := B.exec
  have hb := B.bytes
  have hr := B.returns
  have hts := atoms_spec (ws := wsJx4a65c_rangeCheckForAdd_d00df) B.pre
  have hown : s.vm.findClass RJx4a65c = some m.cls := findClass_of_methodNamed B.named
  have hlocks := B.notSynchronized
  subst hsz
  have hA : ∀ q : Nat, s.heap.size ≤ q → va_A [] s.heap.size q := fun q h => Or.inr h
  have hD := hD0
  generalize va_A [] s.heap.size = A at hA ⊢
  have hS : va_S A s.heap s.heap [] := va_S.rf
  have hP : va_P (dC, dI) vwCl [(h0, .inr (0, [.int 0, .ref z, .int 0]))] s.heap := hP
  have hl := lv_entry ([.ref h0, .int 0]) (n := 2) (Nat.le_of_ble_eq_true rfl)
  rw [lg_entry_eq]
  generalize (lg_sl ([.ref h0, .int 0]) ++ List.replicate (2 - (lg_sl ([.ref h0, .int 0])).length) Slot.unset).toArray = ls at hl ⊢
  have hl : lv_has ls 2 [(0, .ref h0), (1, .int 0)] := hl
  refine lv_iload_n hx hb dJx4a65c_rangeCheckForAdd_d00df_0 rfl (lv_at hl 1 rfl) ?_
  refine lv_aload_n hx hb dJx4a65c_rangeCheckForAdd_d00df_1 rfl (lv_at hl 0 rfl) ?_
  refine va_get (D := (dC, dI)) (ci := 0) (v := .int 0) (C := RJx4a65c) (T := TJx4a65c) (N := 3) hx hb hts (fun _ h => List.mem_cons_of_mem _ (List.mem_append_right _ h)) hown hK hP 0 rfl rfl 2 (by decide) (hts (.fieldLink RJx4a65c 48 "java/util/ArrayList" "size" "I") (by decide +kernel)) (fun _ h9 => h9) rfl dJx4a65c_rangeCheckForAdd_d00df_2 ?_
  refine lv_icmp_gt (tgt := 12) hx hb dJx4a65c_rangeCheckForAdd_d00df_5 (by decide) (fun c_1 => absurd c_1 (by decide)) (fun c_1 => ?_)
  refine lv_iload_n hx hb dJx4a65c_rangeCheckForAdd_d00df_8 rfl (lv_at hl 1 rfl) ?_
  refine lv_if_ge (tgt := 25) hx hb dJx4a65c_rangeCheckForAdd_d00df_9 (by decide) (fun c_2 => ?_) (fun c_2 => absurd (by decide) c_2)
  exact W.vret hx hb hr (fun t ht hW => ⟨⟨(), rfl, trivial, trivial⟩, hS.F ht⟩) hS.2.2 dJx4a65c_rangeCheckForAdd_d00df_25

set_option maxHeartbeats 4000000 in
set_option maxRecDepth 100000 in
theorem k_Jx4a65c_grow_92f84 (l : Launch) (dC : Nat → ClassId) (dI : Nat → Nat → Nat) (h0 : Nat) (z : Nat) (sz : Nat) : Met l yJx4a65c_grow_92f84 wsJx4a65c_grow_92f84 ({ frames := 1, cells := 1, slots := 10, locals := 14 }) (va_Pc [.ref h0, .int 1] (pzPreZ (dC, dI) vwCl [(h0, .inr (0, [.int 1, .ref z, .int 0]))] [] sz z)) (va_Qr (fun _ : Unit => True) (fun (_ : Unit) (ra : Nat) (t : State) => ∃ cA : ClassId, va_P (dC, dI) vwCl [(h0, .inr (0, [.int 1, .ref ra, .int 0])), (ra, .inl (cA, 10, .inr (.inr (.inr (.inr (fun _ => none))))))] t.heap ∧ va_K (dC, dI) vwCl [(cA, .object "java/lang/Object")] t ∧ va_D (va_A [(h0, .inr (0, [.int 1, .ref z, .int 0]))] sz) [(h0, .inr (0, [.int 1, .ref ra, .int 0])), (ra, .inl (cA, 10, .inr (.inr (.inr (.inr (fun _ => none))))))]) (va_A [(h0, .inr (0, [.int 1, .ref z, .int 0]))] sz)) 1 10 (va_A [(h0, .inr (0, [.int 1, .ref z, .int 0]))] sz) := by
  refine Met.ofW (cc := cJx4a65c_grow_92f84) (maxL := 4) (ret := (some (.array (.object "java/lang/Object")))) (by decide) rfl ?_
  intro p e s m args below meth c s₁ B hml hv
  obtain ⟨rfl, ⟨hsz, hP, hK, hD0⟩, hZ⟩ := hv
  have hx := B.exec
  have hb := B.bytes
  have hr := B.returns
  have hts := atoms_spec (ws := wsJx4a65c_grow_92f84) B.pre
  have hown : s.vm.findClass RJx4a65c = some m.cls := findClass_of_methodNamed B.named
  have hlocks := B.notSynchronized
  subst hsz
  have hD := hD0.self (sz := s.heap.size)
  generalize hAe : va_A [(h0, .inr (0, [.int 1, .ref z, .int 0]))] s.heap.size = A at hD hZ ⊢
  have hA : ∀ q : Nat, s.heap.size ≤ q → A q := fun q h => by rw [← hAe]; exact Or.inr h
  have hS : va_S A s.heap s.heap [] := va_S.rf
  have hP : va_P (dC, dI) vwCl [(h0, .inr (0, [.int 1, .ref z, .int 0]))] s.heap := hP
  have hl := lv_entry ([.ref h0, .int 1]) (n := 4) (Nat.le_of_ble_eq_true rfl)
  rw [lg_entry_eq]
  generalize (lg_sl ([.ref h0, .int 1]) ++ List.replicate (4 - (lg_sl ([.ref h0, .int 1])).length) Slot.unset).toArray = ls at hl ⊢
  have hl : lv_has ls 4 [(0, .ref h0), (1, .int 1)] := hl
  refine lv_aload_n hx hb dJx4a65c_grow_92f84_0 rfl (lv_at hl 0 rfl) ?_
  refine va_get (D := (dC, dI)) (ci := 0) (v := .ref z) (C := RJx4a65c) (T := TJx4a65c) (N := 3) hx hb hts (fun _ h => List.mem_cons_of_mem _ (List.mem_append_right _ h)) hown hK hP 0 rfl rfl 1 (by decide) (hts (.fieldLink RJx4a65c 9 "java/util/ArrayList" "elementData" "[Ljava/lang/Object;") (by decide +kernel)) (fun _ h9 => h9) rfl dJx4a65c_grow_92f84_1 ?_
  refine va_tlen hx hb hZ.2.1 hS (v := 0) rfl dJx4a65c_grow_92f84_4 ?_
  refine lv_istore_n (lv' := [(2, .int 0), (0, .ref h0), (1, .int 1)]) hx hb dJx4a65c_grow_92f84_5 rfl hl (by decide) rfl (fun ls hl => ?_)
  refine lv_iload_n hx hb dJx4a65c_grow_92f84_6 rfl (lv_at hl 0 rfl) ?_
  refine lv_if_gt (tgt := 20) hx hb dJx4a65c_grow_92f84_7 (by decide) (fun c_1 => absurd c_1 (by decide)) (fun c_1 => ?_)
  refine lv_aload_n hx hb dJx4a65c_grow_92f84_10 rfl (lv_at hl 1 rfl) ?_
  refine va_get (D := (dC, dI)) (ci := 0) (v := .ref z) (C := RJx4a65c) (T := TJx4a65c) (N := 3) hx hb hts (fun _ h => List.mem_cons_of_mem _ (List.mem_append_right _ h)) hown hK hP 0 rfl rfl 1 (by decide) (hts (.fieldLink RJx4a65c 9 "java/util/ArrayList" "elementData" "[Ljava/lang/Object;") (by decide +kernel)) (fun _ h9 => h9) rfl dJx4a65c_grow_92f84_11 ?_
  refine va_gets hx hb hZ.1 hS hown (hts (.fieldLink RJx4a65c 39 "java/util/ArrayList" "DEFAULTCAPACITY_EMPTY_ELEMENTDATA" "[Ljava/lang/Object;") (by decide +kernel)) (fun _ h9 => h9) dJx4a65c_grow_92f84_14 ?_
  refine lv_acmp_eq (rx := some z) (ry := some z) (tgt := 45) hx hb dJx4a65c_grow_92f84_17 (by decide) (fun _ => ?_) (fun c9 => absurd rfl c9)
  refine lv_aload_n hx hb dJx4a65c_grow_92f84_45 rfl (lv_at hl 1 rfl) ?_
  refine lv_bipush (v := 10) hx hb dJx4a65c_grow_92f84_46 (by decide) ?_
  refine lv_iload_n hx hb dJx4a65c_grow_92f84_48 rfl (lv_at hl 2 rfl) ?_
  refine va_mmax hx hb (hml.trans hl.1.symm) hown (hts (.methodLink RJx4a65c 79 Lib.Math.max.name) (by decide +kernel)) (hts (.static Lib.Math.max.name) (by decide +kernel)) (hts (.initialized "java/lang/Math") (by decide +kernel)) (hts (.code Lib.Math.max.name Lib.Math.max.code 2 (some .int)) (by decide +kernel)) (Nat.le_of_ble_eq_true rfl) (Nat.le_of_ble_eq_true rfl) (Nat.le_of_ble_eq_true rfl) (Nat.le_of_ble_eq_true rfl) dJx4a65c_grow_92f84_49 ?_
  refine lv_topi (fun x_2 ex_2 => ?_)
  obtain rfl : x_2 = 10 := ex_2.trans (by decide)
  refine va_newq (D := (dC, dI)) (cl := vwCl) (n := 10) (N' := 10) hx hb hown (hts (.classLink RJx4a65c 7 "java/lang/Object") (by decide +kernel)) hZ.2.2.1 hK hP hD hS hA (by decide) (by decide) (by decide) (Nat.le_of_ble_eq_true rfl) (Nat.le_of_ble_eq_true rfl) dJx4a65c_grow_92f84_52 (fun q_3 cA_3 H hK hP hD hS => ?_)
  have hP : va_P (dC, dI) vwCl [(h0, .inr (0, [.int 1, .ref z, .int 0])), (q_3, .inl (cA_3, 10, .inr (.inr (.inr (.inr (fun _ => none))))))] H := hP
  have hD : va_D A [(h0, .inr (0, [.int 1, .ref z, .int 0])), (q_3, .inl (cA_3, 10, .inr (.inr (.inr (.inr (fun _ => none))))))] := hD
  have hK : va_K (dC, dI) vwCl [(cA_3, .object "java/lang/Object")] s := hK
  refine lv_dup_x1 hx hb dJx4a65c_grow_92f84_55 rfl rfl ?_
  refine va_put (D := (dC, dI)) (ci := 0) (v := .ref q_3) (ty := .array (.object "java/lang/Object")) (C := RJx4a65c) (T := TJx4a65c) (N := 3) hx hb hts (fun _ h => List.mem_cons_of_mem _ (List.mem_append_right _ h)) tyJx4a65c tyJx4a65c_ok nmJx4a65c hown hK hP hD hS 0 rfl rfl 1 (by decide) (hts (.fieldLink RJx4a65c 9 "java/util/ArrayList" "elementData" "[Ljava/lang/Object;") (by decide +kernel)) (fun _ h9 => h9) rfl (by decide +kernel) rfl rfl (Nat.le_of_ble_eq_true rfl) dJx4a65c_grow_92f84_56 (fun H locs hP hD hS => ?_)
  have hP : va_P (dC, dI) vwCl [(h0, .inr (0, [.int 1, .ref q_3, .int 0])), (q_3, .inl (cA_3, 10, .inr (.inr (.inr (.inr (fun _ => none))))))] H := hP
  have hD : va_D A [(h0, .inr (0, [.int 1, .ref q_3, .int 0])), (q_3, .inl (cA_3, 10, .inr (.inr (.inr (.inr (fun _ => none))))))] := hD
  have hP9 := hP.sub (ws' := [(h0, .inr (0, [.int 1, .ref q_3, .int 0])), (q_3, .inl (cA_3, 10, .inr (.inr (.inr (.inr (fun _ => none))))))]) [0, 1] rfl
  have hD9 := hD.sub (ws' := [(h0, .inr (0, [.int 1, .ref q_3, .int 0])), (q_3, .inl (cA_3, 10, .inr (.inr (.inr (.inr (fun _ => none))))))]) [0, 1] (by decide) rfl
  have hK9 := hK.sub (tys' := [(cA_3, .object "java/lang/Object")]) [0] rfl
  exact W.aret hx hb hr (Or.inr ⟨_, rfl⟩) (Or.inr ⟨_, rfl⟩) (fun t ht hW => ⟨⟨(), q_3, rfl, trivial, ⟨cA_3, by rw [ht]; exact hP9, va_K.moved hW.alike hK9, hD9⟩⟩, hS.F ht⟩) hS.2.2 dJx4a65c_grow_92f84_59

set_option maxHeartbeats 4000000 in
set_option maxRecDepth 100000 in
theorem k_Jx4a65c_grow_d5877 (l : Launch) (dC : Nat → ClassId) (dI : Nat → Nat → Nat) (h0 : Nat) (z : Nat) (sz : Nat) : Met l yJx4a65c_grow_d5877 wsJx4a65c_grow_d5877 ({ frames := 2, cells := 1, slots := 10, locals := 37 }) (va_Pc [.ref h0] (pzPreZ (dC, dI) vwCl [(h0, .inr (0, [.int 1, .ref z, .int 0]))] [] sz z)) (va_Qr (fun _ : Unit => True) (fun (_ : Unit) (ra : Nat) (t : State) => ∃ cA : ClassId, va_P (dC, dI) vwCl [(h0, .inr (0, [.int 1, .ref ra, .int 0])), (ra, .inl (cA, 10, .inr (.inr (.inr (.inr (fun _ => none))))))] t.heap ∧ va_K (dC, dI) vwCl [(cA, .object "java/lang/Object")] t ∧ va_D (va_A [(h0, .inr (0, [.int 1, .ref z, .int 0]))] sz) [(h0, .inr (0, [.int 1, .ref ra, .int 0])), (ra, .inl (cA, 10, .inr (.inr (.inr (.inr (fun _ => none))))))]) (va_A [(h0, .inr (0, [.int 1, .ref z, .int 0]))] sz)) 1 10 (va_A [(h0, .inr (0, [.int 1, .ref z, .int 0]))] sz) := by
  refine Met.ofW (cc := cJx4a65c_grow_d5877) (maxL := 1) (ret := (some (.array (.object "java/lang/Object")))) (by decide) rfl ?_
  intro p e s m args below meth c s₁ B hml hv
  obtain ⟨rfl, ⟨hsz, hP, hK, hD0⟩, hZ⟩ := hv
  have hx := B.exec
  have hb := B.bytes
  have hr := B.returns
  have hts := atoms_spec (ws := wsJx4a65c_grow_d5877) B.pre
  have hown : s.vm.findClass RJx4a65c = some m.cls := findClass_of_methodNamed B.named
  have hlocks := B.notSynchronized
  subst hsz
  have hD := hD0.self (sz := s.heap.size)
  generalize hAe : va_A [(h0, .inr (0, [.int 1, .ref z, .int 0]))] s.heap.size = A at hD hZ ⊢
  have hA : ∀ q : Nat, s.heap.size ≤ q → A q := fun q h => by rw [← hAe]; exact Or.inr h
  have hS : va_S A s.heap s.heap [] := va_S.rf
  have hP : va_P (dC, dI) vwCl [(h0, .inr (0, [.int 1, .ref z, .int 0]))] s.heap := hP
  have hl := lv_entry ([.ref h0]) (n := 1) (Nat.le_of_ble_eq_true rfl)
  rw [lg_entry_eq]
  generalize (lg_sl ([.ref h0]) ++ List.replicate (1 - (lg_sl ([.ref h0])).length) Slot.unset).toArray = ls at hl ⊢
  have hl : lv_has ls 1 [(0, .ref h0)] := hl
  refine lv_aload_n hx hb dJx4a65c_grow_d5877_0 rfl (lv_at hl 0 rfl) ?_
  refine lv_aload_n hx hb dJx4a65c_grow_d5877_1 rfl (lv_at hl 0 rfl) ?_
  refine va_get (D := (dC, dI)) (ci := 0) (v := .int 0) (C := RJx4a65c) (T := TJx4a65c) (N := 3) hx hb hts (fun _ h => List.mem_cons_of_mem _ (List.mem_append_right _ h)) hown hK hP 0 rfl rfl 2 (by decide) (hts (.fieldLink RJx4a65c 48 "java/util/ArrayList" "size" "I") (by decide +kernel)) (fun _ h9 => h9) rfl dJx4a65c_grow_d5877_2 ?_
  refine lv_iconst (v := 1) hx hb dJx4a65c_grow_d5877_5 (by decide) ?_
  refine lv_iadd hx hb dJx4a65c_grow_d5877_6 ?_
  refine lv_topi (fun x_1 ex_1 => ?_)
  obtain rfl : x_1 = 1 := ex_1.trans (by decide)
  have hPc := hP.sub (ws' := [(h0, .inr (0, [.int 1, .ref z, .int 0]))]) [0] rfl
  have hDc := hD.sub (ws' := [(h0, .inr (0, [.int 1, .ref z, .int 0]))]) [0] (by decide) rfl
  have hKc := hK.sub (tys' := []) [] rfl
  have hFc := va_free (wc := [(h0, .inr (0, [.int 1, .ref z, .int 0]))]) hD hS hA [0] rfl
  refine va_callr (va_runV (As := [.int 1]) (rest := []) ⟨hx, hb, hml, hown, hts⟩ (k_Jx4a65c_grow_92f84 l dC dI h0 z s.heap.size) (cwV 1 hts gJx4a65c_grow_d5877_Jx4a65c_grow_92f84 rfl rfl rfl (by decide +kernel) ⟨Nat.le_of_ble_eq_true rfl, Nat.le_of_ble_eq_true rfl⟩) ⟨pz_blindZ, va_recv hKc hPc (ci := 0) (q0 := 0) rfl rfl, fun U hU hW => ⟨rfl, ⟨pz_at hPc hKc hDc hU hW, pz_Zat hZ hS hFc hU hW⟩⟩⟩ rfl rfl hl.1 rfl (lv_room (Nat.le_of_ble_eq_true rfl)) dJx4a65c_grow_d5877_7 ⟨Nat.le_of_ble_eq_true rfl, Nat.le_of_ble_eq_true rfl⟩) hS (fun q _ h => hFc q h) hFc (fun u r_2 t H locs ht hvm hw hB hz1 hk1 hS => ?_)
  obtain ⟨cA_2, hP1, hK1, hD1⟩ := hB
  rw [ht] at hP1
  have hK1 := va_K.moved hvm.symm hK1
  obtain ⟨hP, hD⟩ := va_join (wr := []) (w1 := [(h0, .inr (0, [.int 1, .ref r_2, .int 0])), (r_2, .inl (cA_2, 10, .inr (.inr (.inr (.inr (fun _ => none))))))]) hP hD [0] [] rfl rfl (by decide) (by decide) hk1 hFc hP1 hD1
  have hK := hK.app hK1
  have hK : va_K (dC, dI) vwCl [(cA_2, .object "java/lang/Object")] s := hK
  have hP : va_P (dC, dI) vwCl [(h0, .inr (0, [.int 1, .ref r_2, .int 0])), (r_2, .inl (cA_2, 10, .inr (.inr (.inr (.inr (fun _ => none))))))] H := hP
  have hD : va_D A [(h0, .inr (0, [.int 1, .ref r_2, .int 0])), (r_2, .inl (cA_2, 10, .inr (.inr (.inr (.inr (fun _ => none))))))] := hD
  have hP9 := hP.sub (ws' := [(h0, .inr (0, [.int 1, .ref r_2, .int 0])), (r_2, .inl (cA_2, 10, .inr (.inr (.inr (.inr (fun _ => none))))))]) [0, 1] rfl
  have hD9 := hD.sub (ws' := [(h0, .inr (0, [.int 1, .ref r_2, .int 0])), (r_2, .inl (cA_2, 10, .inr (.inr (.inr (.inr (fun _ => none))))))]) [0, 1] (by decide) rfl
  have hK9 := hK.sub (tys' := [(cA_2, .object "java/lang/Object")]) [0] rfl
  exact W.aret hx hb hr (Or.inr ⟨_, rfl⟩) (Or.inr ⟨_, rfl⟩) (fun t ht hW => ⟨⟨(), r_2, rfl, trivial, ⟨cA_2, by rw [ht]; exact hP9, va_K.moved hW.alike hK9, hD9⟩⟩, hS.F ht⟩) hS.2.2 dJx4a65c_grow_d5877_10

set_option maxHeartbeats 4000000 in
set_option maxRecDepth 100000 in
theorem k_Jx4a65c_add_72be8 (l : Launch) (dC : Nat → ClassId) (dI : Nat → Nat → Nat) (h0 : Nat) (z : Nat) (e0 : Nat) (sz : Nat) : Met l yJx4a65c_add_72be8 wsJx4a65c_add_72be8 ({ frames := 3, cells := 1, slots := 10, locals := 57 }) (va_Pc [.ref h0, .ref e0, .ref z, .int 0] (pzPreE (dC, dI) vwCl [(h0, .inr (0, [.int 1, .ref z, .int 0]))] [] sz z e0)) (va_Qv (fun _ : Unit => True) (fun _ _ => True) (va_A [(h0, .inr (0, [.int 1, .ref z, .int 0]))] sz)) 1 10 (va_A [(h0, .inr (0, [.int 1, .ref z, .int 0]))] sz) := by
  refine Met.ofW (cc := cJx4a65c_add_72be8) (maxL := 4) (ret := none) (by decide) rfl ?_
  intro p e s m args below meth c s₁ B hml hv
  obtain ⟨rfl, ⟨hsz, hP, hK, hD0⟩, hZ, hE⟩ := hv
  have hx := B.exec
  have hb := B.bytes
  have hr := B.returns
  have hts := atoms_spec (ws := wsJx4a65c_add_72be8) B.pre
  have hown : s.vm.findClass RJx4a65c = some m.cls := findClass_of_methodNamed B.named
  have hlocks := B.notSynchronized
  subst hsz
  have hD := hD0.self (sz := s.heap.size)
  generalize hAe : va_A [(h0, .inr (0, [.int 1, .ref z, .int 0]))] s.heap.size = A at hD hZ hE ⊢
  have hA : ∀ q : Nat, s.heap.size ≤ q → A q := fun q h => by rw [← hAe]; exact Or.inr h
  have hS : va_S A s.heap s.heap [] := va_S.rf
  have hP : va_P (dC, dI) vwCl [(h0, .inr (0, [.int 1, .ref z, .int 0]))] s.heap := hP
  have hl := lv_entry ([.ref h0, .ref e0, .ref z, .int 0]) (n := 4) (Nat.le_of_ble_eq_true rfl)
  rw [lg_entry_eq]
  generalize (lg_sl ([.ref h0, .ref e0, .ref z, .int 0]) ++ List.replicate (4 - (lg_sl ([.ref h0, .ref e0, .ref z, .int 0])).length) Slot.unset).toArray = ls at hl ⊢
  have hl : lv_has ls 4 [(0, .ref h0), (1, .ref e0), (2, .ref z), (3, .int 0)] := hl
  refine lv_iload_n hx hb dJx4a65c_add_72be8_0 rfl (lv_at hl 3 rfl) ?_
  refine lv_aload_n hx hb dJx4a65c_add_72be8_1 rfl (lv_at hl 2 rfl) ?_
  refine va_tlen hx hb hZ.2.1 hS (v := 0) rfl dJx4a65c_add_72be8_2 ?_
  refine lv_icmp_ne (tgt := 11) hx hb dJx4a65c_add_72be8_3 (by decide) (fun c_1 => absurd c_1 (by decide)) (fun c_1 => ?_)
  refine lv_aload_n hx hb dJx4a65c_add_72be8_6 rfl (lv_at hl 0 rfl) ?_
  have hPc := hP.sub (ws' := [(h0, .inr (0, [.int 1, .ref z, .int 0]))]) [0] rfl
  have hDc := hD.sub (ws' := [(h0, .inr (0, [.int 1, .ref z, .int 0]))]) [0] (by decide) rfl
  have hKc := hK.sub (tys' := []) [] rfl
  have hFc := va_free (wc := [(h0, .inr (0, [.int 1, .ref z, .int 0]))]) hD hS hA [0] rfl
  refine va_callr (va_runV (As := []) (rest := []) ⟨hx, hb, hml, hown, hts⟩ (k_Jx4a65c_grow_d5877 l dC dI h0 z s.heap.size) (cwV 0 hts gJx4a65c_add_72be8_Jx4a65c_grow_d5877 rfl rfl rfl (by decide +kernel) ⟨Nat.le_of_ble_eq_true rfl, Nat.le_of_ble_eq_true rfl⟩) ⟨pz_blindZ, va_recv hKc hPc (ci := 0) (q0 := 0) rfl rfl, fun U hU hW => ⟨rfl, ⟨pz_at hPc hKc hDc hU hW, pz_Zat hZ hS hFc hU hW⟩⟩⟩ rfl rfl hl.1 rfl (lv_room (Nat.le_of_ble_eq_true rfl)) dJx4a65c_add_72be8_7 ⟨Nat.le_of_ble_eq_true rfl, Nat.le_of_ble_eq_true rfl⟩) hS (fun q _ h => hFc q h) hFc (fun u r_2 t H locs ht hvm hw hB hz1 hk1 hS => ?_)
  obtain ⟨cA_2, hP1, hK1, hD1⟩ := hB
  rw [ht] at hP1
  have hK1 := va_K.moved hvm.symm hK1
  obtain ⟨hP, hD⟩ := va_join (wr := []) (w1 := [(h0, .inr (0, [.int 1, .ref r_2, .int 0])), (r_2, .inl (cA_2, 10, .inr (.inr (.inr (.inr (fun _ => none))))))]) hP hD [0] [] rfl rfl (by decide) (by decide) hk1 hFc hP1 hD1
  have hK := hK.app hK1
  have hK : va_K (dC, dI) vwCl [(cA_2, .object "java/lang/Object")] s := hK
  have hP : va_P (dC, dI) vwCl [(h0, .inr (0, [.int 1, .ref r_2, .int 0])), (r_2, .inl (cA_2, 10, .inr (.inr (.inr (.inr (fun _ => none))))))] H := hP
  have hD : va_D A [(h0, .inr (0, [.int 1, .ref r_2, .int 0])), (r_2, .inl (cA_2, 10, .inr (.inr (.inr (.inr (fun _ => none))))))] := hD
  refine lv_astore_n (lv' := [(2, .ref r_2), (0, .ref h0), (1, .ref e0), (3, .int 0)]) hx hb dJx4a65c_add_72be8_10 rfl hl (by decide) rfl (fun ls hl => ?_)
  refine lv_aload_n hx hb dJx4a65c_add_72be8_11 rfl (lv_at hl 0 rfl) ?_
  refine lv_iload_n hx hb dJx4a65c_add_72be8_12 rfl (lv_at hl 3 rfl) ?_
  refine lv_aload_n hx hb dJx4a65c_add_72be8_13 rfl (lv_at hl 2 rfl) ?_
  refine va_astqM hx hb hK hP hD hS 1 0 rfl rfl (hE.at hS) (by unfold vp_in; decide) dJx4a65c_add_72be8_14 (fun H locs hP hD hS => ?_)
  have hP : va_P (dC, dI) vwCl [(h0, .inr (0, [.int 1, .ref r_2, .int 0])), (r_2, .inl (cA_2, 10, .inr (.inr (.inr (.inr (va_up (fun _ => none) (Int32.toNatClampNeg 0) (some e0)))))))] H := hP
  have hD : va_D A [(h0, .inr (0, [.int 1, .ref r_2, .int 0])), (r_2, .inl (cA_2, 10, .inr (.inr (.inr (.inr (va_up (fun _ => none) (Int32.toNatClampNeg 0) (some e0)))))))] := hD
  refine lv_aload_n hx hb dJx4a65c_add_72be8_15 rfl (lv_at hl 1 rfl) ?_
  refine lv_iload_n hx hb dJx4a65c_add_72be8_16 rfl (lv_at hl 3 rfl) ?_
  refine lv_iconst (v := 1) hx hb dJx4a65c_add_72be8_17 (by decide) ?_
  refine lv_iadd hx hb dJx4a65c_add_72be8_18 ?_
  refine lv_topi (fun x_3 ex_3 => ?_)
  obtain rfl : x_3 = 1 := ex_3.trans (by decide)
  refine va_put (D := (dC, dI)) (ci := 0) (v := .int 1) (ty := .int) (C := RJx4a65c) (T := TJx4a65c) (N := 3) hx hb hts (fun _ h => List.mem_cons_of_mem _ (List.mem_append_right _ h)) tyJx4a65c tyJx4a65c_ok nmJx4a65c hown hK hP hD hS 0 rfl rfl 2 (by decide) (hts (.fieldLink RJx4a65c 48 "java/util/ArrayList" "size" "I") (by decide +kernel)) (fun _ h9 => h9) rfl (by decide +kernel) rfl rfl (Nat.le_of_ble_eq_true rfl) dJx4a65c_add_72be8_19 (fun H locs hP hD hS => ?_)
  have hP : va_P (dC, dI) vwCl [(h0, .inr (0, [.int 1, .ref r_2, .int 1])), (r_2, .inl (cA_2, 10, .inr (.inr (.inr (.inr (va_up (fun _ => none) (Int32.toNatClampNeg 0) (some e0)))))))] H := hP
  have hD : va_D A [(h0, .inr (0, [.int 1, .ref r_2, .int 1])), (r_2, .inl (cA_2, 10, .inr (.inr (.inr (.inr (va_up (fun _ => none) (Int32.toNatClampNeg 0) (some e0)))))))] := hD
  exact W.vret hx hb hr (fun t ht hW => ⟨⟨(), rfl, trivial, trivial⟩, hS.F ht⟩) hS.2.2 dJx4a65c_add_72be8_22

set_option maxHeartbeats 4000000 in
set_option maxRecDepth 100000 in
theorem k_Jx4a65c_add_9ea2d (l : Launch) (dC : Nat → ClassId) (dI : Nat → Nat → Nat) (h0 : Nat) (z : Nat) (e0 : Nat) (sz : Nat) : Met l yJx4a65c_add_9ea2d wsJx4a65c_add_9ea2d ({ frames := 4, cells := 1, slots := 10, locals := 80 }) (va_Pc [.ref h0, .ref e0] (pzPreE (dC, dI) vwCl [(h0, .inr (0, [.int 0, .ref z, .int 0]))] [] sz z e0)) (va_Qi (fun (r : Int32) (_ : Unit) => True) (fun _ _ => True) (va_A [(h0, .inr (0, [.int 0, .ref z, .int 0]))] sz)) 1 10 (va_A [(h0, .inr (0, [.int 0, .ref z, .int 0]))] sz) := by
  refine Met.ofW (cc := cJx4a65c_add_9ea2d) (maxL := 2) (ret := (some .boolean)) (by decide) rfl ?_
  intro p e s m args below meth c s₁ B hml hv
  obtain ⟨rfl, ⟨hsz, hP, hK, hD0⟩, hZ, hE⟩ := hv
  have hx := B.exec
  have hb := B.bytes
  have hr := B.returns
  have hts := atoms_spec (ws := wsJx4a65c_add_9ea2d) B.pre
  have hown : s.vm.findClass RJx4a65c = some m.cls := findClass_of_methodNamed B.named
  have hlocks := B.notSynchronized
  subst hsz
  have hD := hD0.self (sz := s.heap.size)
  generalize hAe : va_A [(h0, .inr (0, [.int 0, .ref z, .int 0]))] s.heap.size = A at hD hZ hE ⊢
  have hA : ∀ q : Nat, s.heap.size ≤ q → A q := fun q h => by rw [← hAe]; exact Or.inr h
  have hS : va_S A s.heap s.heap [] := va_S.rf
  have hP : va_P (dC, dI) vwCl [(h0, .inr (0, [.int 0, .ref z, .int 0]))] s.heap := hP
  have hl := lv_entry ([.ref h0, .ref e0]) (n := 2) (Nat.le_of_ble_eq_true rfl)
  rw [lg_entry_eq]
  generalize (lg_sl ([.ref h0, .ref e0]) ++ List.replicate (2 - (lg_sl ([.ref h0, .ref e0])).length) Slot.unset).toArray = ls at hl ⊢
  have hl : lv_has ls 2 [(0, .ref h0), (1, .ref e0)] := hl
  refine lv_aload_n hx hb dJx4a65c_add_9ea2d_0 rfl (lv_at hl 0 rfl) ?_
  refine lv_dup hx hb dJx4a65c_add_9ea2d_1 rfl ?_
  refine va_get (D := (dC, dI)) (ci := 0) (v := .int 0) (C := RJx4a65c) (T := TJx4a65c) (N := 3) hx hb hts (fun _ h => List.mem_cons_of_mem _ (List.mem_append_right _ h)) hown hK hP 0 rfl rfl 0 (by decide) (hts (.fieldLink RJx4a65c 63 "java/util/ArrayList" "modCount" "I") (by decide +kernel)) (u_same (hts (.sameField "java/util/ArrayList" "java/util/AbstractList" "modCount" "I") (by decide +kernel))) rfl dJx4a65c_add_9ea2d_2 ?_
  refine lv_iconst (v := 1) hx hb dJx4a65c_add_9ea2d_5 (by decide) ?_
  refine lv_iadd hx hb dJx4a65c_add_9ea2d_6 ?_
  refine lv_topi (fun x_1 ex_1 => ?_)
  obtain rfl : x_1 = 1 := ex_1.trans (by decide)
  refine va_put (D := (dC, dI)) (ci := 0) (v := .int 1) (ty := .int) (C := RJx4a65c) (T := TJx4a65c) (N := 3) hx hb hts (fun _ h => List.mem_cons_of_mem _ (List.mem_append_right _ h)) tyJx4a65c tyJx4a65c_ok nmJx4a65c hown hK hP hD hS 0 rfl rfl 0 (by decide) (hts (.fieldLink RJx4a65c 63 "java/util/ArrayList" "modCount" "I") (by decide +kernel)) (u_same (hts (.sameField "java/util/ArrayList" "java/util/AbstractList" "modCount" "I") (by decide +kernel))) rfl (by decide +kernel) rfl rfl (Nat.le_of_ble_eq_true rfl) dJx4a65c_add_9ea2d_7 (fun H locs hP hD hS => ?_)
  have hP : va_P (dC, dI) vwCl [(h0, .inr (0, [.int 1, .ref z, .int 0]))] H := hP
  have hD : va_D A [(h0, .inr (0, [.int 1, .ref z, .int 0]))] := hD
  refine lv_aload_n hx hb dJx4a65c_add_9ea2d_10 rfl (lv_at hl 0 rfl) ?_
  refine lv_aload_n hx hb dJx4a65c_add_9ea2d_11 rfl (lv_at hl 1 rfl) ?_
  refine lv_aload_n hx hb dJx4a65c_add_9ea2d_12 rfl (lv_at hl 0 rfl) ?_
  refine va_get (D := (dC, dI)) (ci := 0) (v := .ref z) (C := RJx4a65c) (T := TJx4a65c) (N := 3) hx hb hts (fun _ h => List.mem_cons_of_mem _ (List.mem_append_right _ h)) hown hK hP 0 rfl rfl 1 (by decide) (hts (.fieldLink RJx4a65c 9 "java/util/ArrayList" "elementData" "[Ljava/lang/Object;") (by decide +kernel)) (fun _ h9 => h9) rfl dJx4a65c_add_9ea2d_13 ?_
  refine lv_aload_n hx hb dJx4a65c_add_9ea2d_16 rfl (lv_at hl 0 rfl) ?_
  refine va_get (D := (dC, dI)) (ci := 0) (v := .int 0) (C := RJx4a65c) (T := TJx4a65c) (N := 3) hx hb hts (fun _ h => List.mem_cons_of_mem _ (List.mem_append_right _ h)) hown hK hP 0 rfl rfl 2 (by decide) (hts (.fieldLink RJx4a65c 48 "java/util/ArrayList" "size" "I") (by decide +kernel)) (fun _ h9 => h9) rfl dJx4a65c_add_9ea2d_17 ?_
  have hPc := hP.sub (ws' := [(h0, .inr (0, [.int 1, .ref z, .int 0]))]) [0] rfl
  have hDc := hD.sub (ws' := [(h0, .inr (0, [.int 1, .ref z, .int 0]))]) [0] (by decide) rfl
  have hKc := hK.sub (tys' := []) [] rfl
  have hFc := va_free (wc := [(h0, .inr (0, [.int 1, .ref z, .int 0]))]) hD hS hA [0] rfl
  refine va_callv (va_runV (As := [.ref e0, .ref z, .int 0]) (rest := []) ⟨hx, hb, hml, hown, hts⟩ (k_Jx4a65c_add_72be8 l dC dI h0 z e0 H.size) (cwV 3 hts gJx4a65c_add_9ea2d_Jx4a65c_add_72be8 rfl rfl rfl (by decide +kernel) ⟨Nat.le_of_ble_eq_true rfl, Nat.le_of_ble_eq_true rfl⟩) ⟨pz_blindE, va_recv hKc hPc (ci := 0) (q0 := 0) rfl rfl, fun U hU hW => ⟨rfl, ⟨pz_at hPc hKc hDc hU hW, pz_Zat hZ hS hFc hU hW, pz_Eat hE hS hFc hU hW⟩⟩⟩ rfl rfl hl.1 rfl (lv_room (Nat.le_of_ble_eq_true rfl)) dJx4a65c_add_9ea2d_20 ⟨Nat.le_of_ble_eq_true rfl, Nat.le_of_ble_eq_true rfl⟩) hS (fun q _ h => hFc q h) hFc (fun u t H locs ht hvm hw hB hz1 hk1 hS => ?_)
  obtain ⟨hP, hD⟩ := va_join (wr := []) (w1 := []) hP hD [0] [] rfl rfl (by decide) (by decide) hk1 hFc pz_nilP pz_nilD
  have hP : va_P (dC, dI) vwCl [] H := hP
  have hD : va_D A [] := hD
  refine W.eq (g2 := F0 m 23 ls []) rfl ?_
  refine lv_iconst (v := 1) hx hb dJx4a65c_add_9ea2d_23 (by decide) ?_
  exact W.zret (v := 1) hx hb hr rfl (fun t ht hW => ⟨⟨1, (), rfl, trivial, trivial⟩, hS.F ht⟩) hS.2.2 dJx4a65c_add_9ea2d_24

set_option maxHeartbeats 4000000 in
set_option maxRecDepth 100000 in
theorem k_Jx4a65c_add_7a177 (l : Launch) (dC : Nat → ClassId) (dI : Nat → Nat → Nat) (h0 : Nat) (z : Nat) (e0 : Nat) (sz : Nat) : Met l yJx4a65c_add_7a177 wsJx4a65c_add_7a177 ({ frames := 3, cells := 1, slots := 10, locals := 60 }) (va_Pc [.ref h0, .int 0, .ref e0] (pzPreE (dC, dI) vwCl [(h0, .inr (0, [.int 0, .ref z, .int 0]))] [] sz z e0)) (va_Qv (fun _ : Unit => True) (fun _ _ => True) (va_A [(h0, .inr (0, [.int 0, .ref z, .int 0]))] sz)) 1 10 (va_A [(h0, .inr (0, [.int 0, .ref z, .int 0]))] sz) := by
  refine Met.ofW (cc := cJx4a65c_add_7a177) (maxL := 5) (ret := none) (by decide) rfl ?_
  intro p e s m args below meth c s₁ B hml hv
  obtain ⟨rfl, ⟨hsz, hP, hK, hD0⟩, hZ, hE⟩ := hv
  have hx := B.exec
  have hb := B.bytes
  have hr := B.returns
  have hts := atoms_spec (ws := wsJx4a65c_add_7a177) B.pre
  have hown : s.vm.findClass RJx4a65c = some m.cls := findClass_of_methodNamed B.named
  have hlocks := B.notSynchronized
  subst hsz
  have hD := hD0.self (sz := s.heap.size)
  generalize hAe : va_A [(h0, .inr (0, [.int 0, .ref z, .int 0]))] s.heap.size = A at hD hZ hE ⊢
  have hA : ∀ q : Nat, s.heap.size ≤ q → A q := fun q h => by rw [← hAe]; exact Or.inr h
  have hS : va_S A s.heap s.heap [] := va_S.rf
  have hP : va_P (dC, dI) vwCl [(h0, .inr (0, [.int 0, .ref z, .int 0]))] s.heap := hP
  have hl := lv_entry ([.ref h0, .int 0, .ref e0]) (n := 5) (Nat.le_of_ble_eq_true rfl)
  rw [lg_entry_eq]
  generalize (lg_sl ([.ref h0, .int 0, .ref e0]) ++ List.replicate (5 - (lg_sl ([.ref h0, .int 0, .ref e0])).length) Slot.unset).toArray = ls at hl ⊢
  have hl : lv_has ls 5 [(0, .ref h0), (1, .int 0), (2, .ref e0)] := hl
  refine lv_aload_n hx hb dJx4a65c_add_7a177_0 rfl (lv_at hl 0 rfl) ?_
  refine lv_iload_n hx hb dJx4a65c_add_7a177_1 rfl (lv_at hl 1 rfl) ?_
  have hPc := hP.sub (ws' := [(h0, .inr (0, [.int 0, .ref z, .int 0]))]) [0] rfl
  have hDc := hD.sub (ws' := [(h0, .inr (0, [.int 0, .ref z, .int 0]))]) [0] (by decide) rfl
  have hKc := hK.sub (tys' := []) [] rfl
  have hFc := pz_f hA hS
  refine va_callv (va_runV (As := [.int 0]) (rest := []) ⟨hx, hb, hml, hown, hts⟩ (k_Jx4a65c_rangeCheckForAdd_d00df l dC dI h0 z s.heap.size) (cwV 1 hts gJx4a65c_add_7a177_Jx4a65c_rangeCheckForAdd_d00df rfl rfl rfl (by decide +kernel) ⟨Nat.le_of_ble_eq_true rfl, Nat.le_of_ble_eq_true rfl⟩) ⟨pz_blind, va_recv hKc hPc (ci := 0) (q0 := 0) rfl rfl, fun U hU hW => ⟨rfl, pz_at hPc hKc hDc hU hW⟩⟩ rfl rfl hl.1 rfl (lv_room (Nat.le_of_ble_eq_true rfl)) dJx4a65c_add_7a177_2 ⟨Nat.le_of_ble_eq_true rfl, Nat.le_of_ble_eq_true rfl⟩) hS (fun q _ h => hFc q h) hFc (fun u t H locs ht hvm hw hB hz1 hk1 hS => ?_)
  have hP := pz_keep hP hk1
  refine W.eq (g2 := F0 m 5 ls []) rfl ?_
  refine lv_aload_n hx hb dJx4a65c_add_7a177_5 rfl (lv_at hl 0 rfl) ?_
  refine lv_dup hx hb dJx4a65c_add_7a177_6 rfl ?_
  refine va_get (D := (dC, dI)) (ci := 0) (v := .int 0) (C := RJx4a65c) (T := TJx4a65c) (N := 3) hx hb hts (fun _ h => List.mem_cons_of_mem _ (List.mem_append_right _ h)) hown hK hP 0 rfl rfl 0 (by decide) (hts (.fieldLink RJx4a65c 63 "java/util/ArrayList" "modCount" "I") (by decide +kernel)) (u_same (hts (.sameField "java/util/ArrayList" "java/util/AbstractList" "modCount" "I") (by decide +kernel))) rfl dJx4a65c_add_7a177_7 ?_
  refine lv_iconst (v := 1) hx hb dJx4a65c_add_7a177_10 (by decide) ?_
  refine lv_iadd hx hb dJx4a65c_add_7a177_11 ?_
  refine lv_topi (fun x_2 ex_2 => ?_)
  obtain rfl : x_2 = 1 := ex_2.trans (by decide)
  refine va_put (D := (dC, dI)) (ci := 0) (v := .int 1) (ty := .int) (C := RJx4a65c) (T := TJx4a65c) (N := 3) hx hb hts (fun _ h => List.mem_cons_of_mem _ (List.mem_append_right _ h)) tyJx4a65c tyJx4a65c_ok nmJx4a65c hown hK hP hD hS 0 rfl rfl 0 (by decide) (hts (.fieldLink RJx4a65c 63 "java/util/ArrayList" "modCount" "I") (by decide +kernel)) (u_same (hts (.sameField "java/util/ArrayList" "java/util/AbstractList" "modCount" "I") (by decide +kernel))) rfl (by decide +kernel) rfl rfl (Nat.le_of_ble_eq_true rfl) dJx4a65c_add_7a177_12 (fun H locs hP hD hS => ?_)
  have hP : va_P (dC, dI) vwCl [(h0, .inr (0, [.int 1, .ref z, .int 0]))] H := hP
  have hD : va_D A [(h0, .inr (0, [.int 1, .ref z, .int 0]))] := hD
  refine lv_aload_n hx hb dJx4a65c_add_7a177_15 rfl (lv_at hl 0 rfl) ?_
  refine va_get (D := (dC, dI)) (ci := 0) (v := .int 0) (C := RJx4a65c) (T := TJx4a65c) (N := 3) hx hb hts (fun _ h => List.mem_cons_of_mem _ (List.mem_append_right _ h)) hown hK hP 0 rfl rfl 2 (by decide) (hts (.fieldLink RJx4a65c 48 "java/util/ArrayList" "size" "I") (by decide +kernel)) (fun _ h9 => h9) rfl dJx4a65c_add_7a177_16 ?_
  refine lv_dup hx hb dJx4a65c_add_7a177_19 rfl ?_
  refine lv_istore_n (lv' := [(3, .int 0), (0, .ref h0), (1, .int 0), (2, .ref e0)]) hx hb dJx4a65c_add_7a177_20 rfl hl (by decide) rfl (fun ls hl => ?_)
  refine lv_aload_n hx hb dJx4a65c_add_7a177_21 rfl (lv_at hl 1 rfl) ?_
  refine va_get (D := (dC, dI)) (ci := 0) (v := .ref z) (C := RJx4a65c) (T := TJx4a65c) (N := 3) hx hb hts (fun _ h => List.mem_cons_of_mem _ (List.mem_append_right _ h)) hown hK hP 0 rfl rfl 1 (by decide) (hts (.fieldLink RJx4a65c 9 "java/util/ArrayList" "elementData" "[Ljava/lang/Object;") (by decide +kernel)) (fun _ h9 => h9) rfl dJx4a65c_add_7a177_22 ?_
  refine lv_dup hx hb dJx4a65c_add_7a177_25 rfl ?_
  refine lv_astore (lv' := [(4, .ref z), (3, .int 0), (0, .ref h0), (1, .int 0), (2, .ref e0)]) hx hb dJx4a65c_add_7a177_26 hl (by decide) rfl (fun ls hl => ?_)
  refine va_tlen hx hb hZ.2.1 hS (v := 0) rfl dJx4a65c_add_7a177_28 ?_
  refine lv_icmp_ne (tgt := 38) hx hb dJx4a65c_add_7a177_29 (by decide) (fun c_3 => absurd c_3 (by decide)) (fun c_3 => ?_)
  refine lv_aload_n hx hb dJx4a65c_add_7a177_32 rfl (lv_at hl 2 rfl) ?_
  have hPc := hP.sub (ws' := [(h0, .inr (0, [.int 1, .ref z, .int 0]))]) [0] rfl
  have hDc := hD.sub (ws' := [(h0, .inr (0, [.int 1, .ref z, .int 0]))]) [0] (by decide) rfl
  have hKc := hK.sub (tys' := []) [] rfl
  have hFc := va_free (wc := [(h0, .inr (0, [.int 1, .ref z, .int 0]))]) hD hS hA [0] rfl
  refine va_callr (va_runV (As := []) (rest := []) ⟨hx, hb, hml, hown, hts⟩ (k_Jx4a65c_grow_d5877 l dC dI h0 z H.size) (cwV 0 hts gJx4a65c_add_7a177_Jx4a65c_grow_d5877 rfl rfl rfl (by decide +kernel) ⟨Nat.le_of_ble_eq_true rfl, Nat.le_of_ble_eq_true rfl⟩) ⟨pz_blindZ, va_recv hKc hPc (ci := 0) (q0 := 0) rfl rfl, fun U hU hW => ⟨rfl, ⟨pz_at hPc hKc hDc hU hW, pz_Zat hZ hS hFc hU hW⟩⟩⟩ rfl rfl hl.1 rfl (lv_room (Nat.le_of_ble_eq_true rfl)) dJx4a65c_add_7a177_33 ⟨Nat.le_of_ble_eq_true rfl, Nat.le_of_ble_eq_true rfl⟩) hS (fun q _ h => hFc q h) hFc (fun u r_4 t H locs ht hvm hw hB hz1 hk1 hS => ?_)
  obtain ⟨cA_4, hP1, hK1, hD1⟩ := hB
  rw [ht] at hP1
  have hK1 := va_K.moved hvm.symm hK1
  obtain ⟨hP, hD⟩ := va_join (wr := []) (w1 := [(h0, .inr (0, [.int 1, .ref r_4, .int 0])), (r_4, .inl (cA_4, 10, .inr (.inr (.inr (.inr (fun _ => none))))))]) hP hD [0] [] rfl rfl (by decide) (by decide) hk1 hFc hP1 hD1
  have hK := hK.app hK1
  have hK : va_K (dC, dI) vwCl [(cA_4, .object "java/lang/Object")] s := hK
  have hP : va_P (dC, dI) vwCl [(h0, .inr (0, [.int 1, .ref r_4, .int 0])), (r_4, .inl (cA_4, 10, .inr (.inr (.inr (.inr (fun _ => none))))))] H := hP
  have hD : va_D A [(h0, .inr (0, [.int 1, .ref r_4, .int 0])), (r_4, .inl (cA_4, 10, .inr (.inr (.inr (.inr (fun _ => none))))))] := hD
  refine lv_astore (lv' := [(4, .ref r_4), (3, .int 0), (0, .ref h0), (1, .int 0), (2, .ref e0)]) hx hb dJx4a65c_add_7a177_36 hl (by decide) rfl (fun ls hl => ?_)
  refine lv_aload hx hb dJx4a65c_add_7a177_38 (lv_at hl 0 rfl) ?_
  refine lv_iload_n hx hb dJx4a65c_add_7a177_40 rfl (lv_at hl 3 rfl) ?_
  refine lv_aload hx hb dJx4a65c_add_7a177_41 (lv_at hl 0 rfl) ?_
  refine lv_iload_n hx hb dJx4a65c_add_7a177_43 rfl (lv_at hl 3 rfl) ?_
  refine lv_iconst (v := 1) hx hb dJx4a65c_add_7a177_44 (by decide) ?_
  refine lv_iadd hx hb dJx4a65c_add_7a177_45 ?_
  refine lv_topi (fun x_5 ex_5 => ?_)
  obtain rfl : x_5 = 1 := ex_5.trans (by decide)
  refine lv_iload_n hx hb dJx4a65c_add_7a177_46 rfl (lv_at hl 1 rfl) ?_
  refine lv_iload_n hx hb dJx4a65c_add_7a177_47 rfl (lv_at hl 3 rfl) ?_
  refine lv_isub hx hb dJx4a65c_add_7a177_48 ?_
  refine lv_topi (fun x_6 ex_6 => ?_)
  obtain rfl : x_6 = 0 := ex_6.trans (by decide)
  refine va_copyM hx hb (hml.trans hl.1.symm) hown (hts (.methodLink RJx4a65c 112 arraycopyName) (by decide +kernel)) (hts (.native arraycopyName) (by decide +kernel)) (hts (.static arraycopyName) (by decide +kernel)) (hts (.initialized "java/lang/System") (by decide +kernel)) hK hP hD hS 1 1 0 0 rfl rfl rfl rfl (by decide) (by decide) (by decide) (by decide) (by decide) (fun i9 h9 => absurd h9 (by simp)) (Nat.le_of_ble_eq_true rfl) (Nat.le_of_ble_eq_true rfl) dJx4a65c_add_7a177_49 (fun H locs hP hD hS => ?_)
  have hP : va_P (dC, dI) vwCl [(h0, .inr (0, [.int 1, .ref r_4, .int 0])), (r_4, .inl (cA_4, 10, .inr (.inr (.inr (.inr (va_cpy (fun _ => none) (fun _ => none) (Int32.toNatClampNeg 0) (Int32.toNatClampNeg 1) (Int32.toNatClampNeg 0)))))))] H := hP
  have hD : va_D A [(h0, .inr (0, [.int 1, .ref r_4, .int 0])), (r_4, .inl (cA_4, 10, .inr (.inr (.inr (.inr (va_cpy (fun _ => none) (fun _ => none) (Int32.toNatClampNeg 0) (Int32.toNatClampNeg 1) (Int32.toNatClampNeg 0)))))))] := hD
  refine lv_aload hx hb dJx4a65c_add_7a177_52 (lv_at hl 0 rfl) ?_
  refine lv_iload_n hx hb dJx4a65c_add_7a177_54 rfl (lv_at hl 3 rfl) ?_
  refine lv_aload_n hx hb dJx4a65c_add_7a177_55 rfl (lv_at hl 4 rfl) ?_
  refine va_astqM hx hb hK hP hD hS 1 0 rfl rfl (hE.at hS) (by unfold vp_in; decide) dJx4a65c_add_7a177_56 (fun H locs hP hD hS => ?_)
  have hP : va_P (dC, dI) vwCl [(h0, .inr (0, [.int 1, .ref r_4, .int 0])), (r_4, .inl (cA_4, 10, .inr (.inr (.inr (.inr (va_up (va_cpy (fun _ => none) (fun _ => none) (Int32.toNatClampNeg 0) (Int32.toNatClampNeg 1) (Int32.toNatClampNeg 0)) (Int32.toNatClampNeg 0) (some e0)))))))] H := hP
  have hD : va_D A [(h0, .inr (0, [.int 1, .ref r_4, .int 0])), (r_4, .inl (cA_4, 10, .inr (.inr (.inr (.inr (va_up (va_cpy (fun _ => none) (fun _ => none) (Int32.toNatClampNeg 0) (Int32.toNatClampNeg 1) (Int32.toNatClampNeg 0)) (Int32.toNatClampNeg 0) (some e0)))))))] := hD
  refine lv_aload_n hx hb dJx4a65c_add_7a177_57 rfl (lv_at hl 2 rfl) ?_
  refine lv_iload_n hx hb dJx4a65c_add_7a177_58 rfl (lv_at hl 1 rfl) ?_
  refine lv_iconst (v := 1) hx hb dJx4a65c_add_7a177_59 (by decide) ?_
  refine lv_iadd hx hb dJx4a65c_add_7a177_60 ?_
  refine lv_topi (fun x_7 ex_7 => ?_)
  obtain rfl : x_7 = 1 := ex_7.trans (by decide)
  refine va_put (D := (dC, dI)) (ci := 0) (v := .int 1) (ty := .int) (C := RJx4a65c) (T := TJx4a65c) (N := 3) hx hb hts (fun _ h => List.mem_cons_of_mem _ (List.mem_append_right _ h)) tyJx4a65c tyJx4a65c_ok nmJx4a65c hown hK hP hD hS 0 rfl rfl 2 (by decide) (hts (.fieldLink RJx4a65c 48 "java/util/ArrayList" "size" "I") (by decide +kernel)) (fun _ h9 => h9) rfl (by decide +kernel) rfl rfl (Nat.le_of_ble_eq_true rfl) dJx4a65c_add_7a177_61 (fun H locs hP hD hS => ?_)
  have hP : va_P (dC, dI) vwCl [(h0, .inr (0, [.int 1, .ref r_4, .int 1])), (r_4, .inl (cA_4, 10, .inr (.inr (.inr (.inr (va_up (va_cpy (fun _ => none) (fun _ => none) (Int32.toNatClampNeg 0) (Int32.toNatClampNeg 1) (Int32.toNatClampNeg 0)) (Int32.toNatClampNeg 0) (some e0)))))))] H := hP
  have hD : va_D A [(h0, .inr (0, [.int 1, .ref r_4, .int 1])), (r_4, .inl (cA_4, 10, .inr (.inr (.inr (.inr (va_up (va_cpy (fun _ => none) (fun _ => none) (Int32.toNatClampNeg 0) (Int32.toNatClampNeg 1) (Int32.toNatClampNeg 0)) (Int32.toNatClampNeg 0) (some e0)))))))] := hD
  exact W.vret hx hb hr (fun t ht hW => ⟨⟨(), rfl, trivial, trivial⟩, hS.F ht⟩) hS.2.2 dJx4a65c_add_7a177_64

set_option maxHeartbeats 4000000 in
set_option maxRecDepth 100000 in
theorem k_X2_init (l : Launch) (dC : Nat → ClassId) (dI : Nat → Nat → Nat) (h0 : Nat) (n : Int32) (w : Int32) (zo : Int32) (r0 : Int32) (p0 : Int32) (b0 : Int32) (sz : Nat) : Met l yX2_init wsX2_init ({ frames := 1, cells := 0, slots := 0, locals := 12 }) (va_Pc [.ref h0, .int n, .int w, .int zo, .int r0, .int p0, .int b0] (pzPre (dC, dI) vwCl [(h0, .inr (3, [.int 0, .int 0, .int 0, .int 0, .int 0, .int 0, .int 0, .int 0, .int 0, .int 0, .int 0, .int 0, .int 0, .int 0, .int 0, .int 0, .int 0]))] [] sz)) (va_Qv (fun _ : Unit => True) (fun (_ : Unit) (t : State) => va_P (dC, dI) vwCl [(h0, .inr (3, [.int n, .int zo, .int w, .int r0, .int p0, .int b0, .int 0, .int 0, .int 0, .int 0, .int 0, .int 0, .int 0, .int 0, .int 10, .int 0, .int 0]))] t.heap ∧ va_K (dC, dI) vwCl [] t ∧ va_D (va_A [(h0, .inr (3, [.int 0, .int 0, .int 0, .int 0, .int 0, .int 0, .int 0, .int 0, .int 0, .int 0, .int 0, .int 0, .int 0, .int 0, .int 0, .int 0, .int 0]))] sz) [(h0, .inr (3, [.int n, .int zo, .int w, .int r0, .int p0, .int b0, .int 0, .int 0, .int 0, .int 0, .int 0, .int 0, .int 0, .int 0, .int 10, .int 0, .int 0]))]) (va_A [(h0, .inr (3, [.int 0, .int 0, .int 0, .int 0, .int 0, .int 0, .int 0, .int 0, .int 0, .int 0, .int 0, .int 0, .int 0, .int 0, .int 0, .int 0, .int 0]))] sz)) 0 0 (va_A [(h0, .inr (3, [.int 0, .int 0, .int 0, .int 0, .int 0, .int 0, .int 0, .int 0, .int 0, .int 0, .int 0, .int 0, .int 0, .int 0, .int 0, .int 0, .int 0]))] sz) := by
  refine Met.ofW (cc := cX2_init) (maxL := 7) (ret := none) (by decide) rfl ?_
  intro p e s m args below meth c s₁ B hml hv
  obtain ⟨rfl, hsz, hP, hK, hD0⟩ := hv
  have hx := B.exec
  have hb := B.bytes
  have hr := B.returns
  have hts := atoms_spec (ws := wsX2_init) B.pre
  have hown : s.vm.findClass RX2 = some m.cls := findClass_of_methodNamed B.named
  have hlocks := B.notSynchronized
  have hin : meth.name = "<init>" := (name_of_methodNamed B.named B.method).1
  subst hsz
  have hD := hD0.self (sz := s.heap.size)
  generalize hAe : va_A [(h0, .inr (3, [.int 0, .int 0, .int 0, .int 0, .int 0, .int 0, .int 0, .int 0, .int 0, .int 0, .int 0, .int 0, .int 0, .int 0, .int 0, .int 0, .int 0]))] s.heap.size = A at hD ⊢
  have hA : ∀ q : Nat, s.heap.size ≤ q → A q := fun q h => by rw [← hAe]; exact Or.inr h
  have hS : va_S A s.heap s.heap [] := va_S.rf
  have hP : va_P (dC, dI) vwCl [(h0, .inr (3, [.int 0, .int 0, .int 0, .int 0, .int 0, .int 0, .int 0, .int 0, .int 0, .int 0, .int 0, .int 0, .int 0, .int 0, .int 0, .int 0, .int 0]))] s.heap := hP
  have hl := lv_entry ([.ref h0, .int n, .int w, .int zo, .int r0, .int p0, .int b0]) (n := 7) (Nat.le_of_ble_eq_true rfl)
  rw [lg_entry_eq]
  generalize (lg_sl ([.ref h0, .int n, .int w, .int zo, .int r0, .int p0, .int b0]) ++ List.replicate (7 - (lg_sl ([.ref h0, .int n, .int w, .int zo, .int r0, .int p0, .int b0])).length) Slot.unset).toArray = ls at hl ⊢
  have hl : lv_has ls 7 [(0, .ref h0), (1, .int n), (2, .int w), (3, .int zo), (4, .int r0), (5, .int p0), (6, .int b0)] := hl
  refine lv_aload_n hx hb dX2_init_0 rfl (lv_at hl 0 rfl) ?_
  refine W.objInit hx hb hown (hts (.methodLink RX2 3 objectInit) (by decide +kernel)) (hts (.instanceMethod objectInit) (by decide +kernel)) (hts (.code objectInit ⟨#[0xb1]⟩ 1 none) (by decide +kernel)) rfl (by rw [hml]; exact hl.1) rfl dX2_init_1 (Nat.le_of_ble_eq_true rfl) (Nat.le_of_ble_eq_true rfl) ?_
  refine W.eq (g2 := F0 m 4 ls []) rfl ?_
  refine lv_aload_n hx hb dX2_init_4 rfl (lv_at hl 0 rfl) ?_
  refine lv_iload_n hx hb dX2_init_5 rfl (lv_at hl 1 rfl) ?_
  refine va_putF (D := (dC, dI)) (ci := 3) (v := .int n) (ty := .int) (C := RX2) (T := TX2) (N := 17) hx hb hts (fun _ h => List.mem_cons_of_mem _ (List.mem_append_right _ h)) tyX2 tyX2_ok nmX2 hown hK hP hD hS 0 rfl rfl 0 (by decide) (hts (.fieldLink RX2 9 "FrontDoor$Server" "number" "I") (by decide +kernel)) (fun _ h9 => h9) rfl hin rfl (by decide +kernel) rfl rfl (Nat.le_of_ble_eq_true rfl) dX2_init_6 (fun H locs hP hD hS => ?_)
  have hP : va_P (dC, dI) vwCl [(h0, .inr (3, [.int n, .int 0, .int 0, .int 0, .int 0, .int 0, .int 0, .int 0, .int 0, .int 0, .int 0, .int 0, .int 0, .int 0, .int 0, .int 0, .int 0]))] H := hP
  have hD : va_D A [(h0, .inr (3, [.int n, .int 0, .int 0, .int 0, .int 0, .int 0, .int 0, .int 0, .int 0, .int 0, .int 0, .int 0, .int 0, .int 0, .int 0, .int 0, .int 0]))] := hD
  refine lv_aload_n hx hb dX2_init_9 rfl (lv_at hl 0 rfl) ?_
  refine lv_iload_n hx hb dX2_init_10 rfl (lv_at hl 2 rfl) ?_
  refine va_put (D := (dC, dI)) (ci := 3) (v := .int w) (ty := .int) (C := RX2) (T := TX2) (N := 17) hx hb hts (fun _ h => List.mem_cons_of_mem _ (List.mem_append_right _ h)) tyX2 tyX2_ok nmX2 hown hK hP hD hS 0 rfl rfl 2 (by decide) (hts (.fieldLink RX2 15 "FrontDoor$Server" "weight" "I") (by decide +kernel)) (fun _ h9 => h9) rfl (by decide +kernel) rfl rfl (Nat.le_of_ble_eq_true rfl) dX2_init_11 (fun H locs hP hD hS => ?_)
  have hP : va_P (dC, dI) vwCl [(h0, .inr (3, [.int n, .int 0, .int w, .int 0, .int 0, .int 0, .int 0, .int 0, .int 0, .int 0, .int 0, .int 0, .int 0, .int 0, .int 0, .int 0, .int 0]))] H := hP
  have hD : va_D A [(h0, .inr (3, [.int n, .int 0, .int w, .int 0, .int 0, .int 0, .int 0, .int 0, .int 0, .int 0, .int 0, .int 0, .int 0, .int 0, .int 0, .int 0, .int 0]))] := hD
  refine lv_aload_n hx hb dX2_init_14 rfl (lv_at hl 0 rfl) ?_
  refine lv_iload_n hx hb dX2_init_15 rfl (lv_at hl 3 rfl) ?_
  refine va_putF (D := (dC, dI)) (ci := 3) (v := .int zo) (ty := .int) (C := RX2) (T := TX2) (N := 17) hx hb hts (fun _ h => List.mem_cons_of_mem _ (List.mem_append_right _ h)) tyX2 tyX2_ok nmX2 hown hK hP hD hS 0 rfl rfl 1 (by decide) (hts (.fieldLink RX2 18 "FrontDoor$Server" "zone" "I") (by decide +kernel)) (fun _ h9 => h9) rfl hin rfl (by decide +kernel) rfl rfl (Nat.le_of_ble_eq_true rfl) dX2_init_16 (fun H locs hP hD hS => ?_)
  have hP : va_P (dC, dI) vwCl [(h0, .inr (3, [.int n, .int zo, .int w, .int 0, .int 0, .int 0, .int 0, .int 0, .int 0, .int 0, .int 0, .int 0, .int 0, .int 0, .int 0, .int 0, .int 0]))] H := hP
  have hD : va_D A [(h0, .inr (3, [.int n, .int zo, .int w, .int 0, .int 0, .int 0, .int 0, .int 0, .int 0, .int 0, .int 0, .int 0, .int 0, .int 0, .int 0, .int 0, .int 0]))] := hD
  refine lv_aload_n hx hb dX2_init_19 rfl (lv_at hl 0 rfl) ?_
  refine lv_iload hx hb dX2_init_20 (lv_at hl 4 rfl) ?_
  refine va_put (D := (dC, dI)) (ci := 3) (v := .int r0) (ty := .int) (C := RX2) (T := TX2) (N := 17) hx hb hts (fun _ h => List.mem_cons_of_mem _ (List.mem_append_right _ h)) tyX2 tyX2_ok nmX2 hown hK hP hD hS 0 rfl rfl 3 (by decide) (hts (.fieldLink RX2 21 "FrontDoor$Server" "room" "I") (by decide +kernel)) (fun _ h9 => h9) rfl (by decide +kernel) rfl rfl (Nat.le_of_ble_eq_true rfl) dX2_init_22 (fun H locs hP hD hS => ?_)
  have hP : va_P (dC, dI) vwCl [(h0, .inr (3, [.int n, .int zo, .int w, .int r0, .int 0, .int 0, .int 0, .int 0, .int 0, .int 0, .int 0, .int 0, .int 0, .int 0, .int 0, .int 0, .int 0]))] H := hP
  have hD : va_D A [(h0, .inr (3, [.int n, .int zo, .int w, .int r0, .int 0, .int 0, .int 0, .int 0, .int 0, .int 0, .int 0, .int 0, .int 0, .int 0, .int 0, .int 0, .int 0]))] := hD
  refine lv_aload_n hx hb dX2_init_25 rfl (lv_at hl 0 rfl) ?_
  refine lv_iload hx hb dX2_init_26 (lv_at hl 5 rfl) ?_
  refine va_put (D := (dC, dI)) (ci := 3) (v := .int p0) (ty := .int) (C := RX2) (T := TX2) (N := 17) hx hb hts (fun _ h => List.mem_cons_of_mem _ (List.mem_append_right _ h)) tyX2 tyX2_ok nmX2 hown hK hP hD hS 0 rfl rfl 4 (by decide) (hts (.fieldLink RX2 24 "FrontDoor$Server" "pace" "I") (by decide +kernel)) (fun _ h9 => h9) rfl (by decide +kernel) rfl rfl (Nat.le_of_ble_eq_true rfl) dX2_init_28 (fun H locs hP hD hS => ?_)
  have hP : va_P (dC, dI) vwCl [(h0, .inr (3, [.int n, .int zo, .int w, .int r0, .int p0, .int 0, .int 0, .int 0, .int 0, .int 0, .int 0, .int 0, .int 0, .int 0, .int 0, .int 0, .int 0]))] H := hP
  have hD : va_D A [(h0, .inr (3, [.int n, .int zo, .int w, .int r0, .int p0, .int 0, .int 0, .int 0, .int 0, .int 0, .int 0, .int 0, .int 0, .int 0, .int 0, .int 0, .int 0]))] := hD
  refine lv_aload_n hx hb dX2_init_31 rfl (lv_at hl 0 rfl) ?_
  refine lv_iload hx hb dX2_init_32 (lv_at hl 6 rfl) ?_
  refine va_put (D := (dC, dI)) (ci := 3) (v := .int b0) (ty := .int) (C := RX2) (T := TX2) (N := 17) hx hb hts (fun _ h => List.mem_cons_of_mem _ (List.mem_append_right _ h)) tyX2 tyX2_ok nmX2 hown hK hP hD hS 0 rfl rfl 5 (by decide) (hts (.fieldLink RX2 27 "FrontDoor$Server" "breaks" "I") (by decide +kernel)) (fun _ h9 => h9) rfl (by decide +kernel) rfl rfl (Nat.le_of_ble_eq_true rfl) dX2_init_34 (fun H locs hP hD hS => ?_)
  have hP : va_P (dC, dI) vwCl [(h0, .inr (3, [.int n, .int zo, .int w, .int r0, .int p0, .int b0, .int 0, .int 0, .int 0, .int 0, .int 0, .int 0, .int 0, .int 0, .int 0, .int 0, .int 0]))] H := hP
  have hD : va_D A [(h0, .inr (3, [.int n, .int zo, .int w, .int r0, .int p0, .int b0, .int 0, .int 0, .int 0, .int 0, .int 0, .int 0, .int 0, .int 0, .int 0, .int 0, .int 0]))] := hD
  refine lv_aload_n hx hb dX2_init_37 rfl (lv_at hl 0 rfl) ?_
  refine lv_iconst (v := 0) hx hb dX2_init_38 (by decide) ?_
  refine va_put (D := (dC, dI)) (ci := 3) (v := .int 0) (ty := .int) (C := RX2) (T := TX2) (N := 17) hx hb hts (fun _ h => List.mem_cons_of_mem _ (List.mem_append_right _ h)) tyX2 tyX2_ok nmX2 hown hK hP hD hS 0 rfl rfl 7 (by decide) (hts (.fieldLink RX2 30 "FrontDoor$Server" "health" "I") (by decide +kernel)) (fun _ h9 => h9) rfl (by decide +kernel) rfl rfl (Nat.le_of_ble_eq_true rfl) dX2_init_39 (fun H locs hP hD hS => ?_)
  have hP : va_P (dC, dI) vwCl [(h0, .inr (3, [.int n, .int zo, .int w, .int r0, .int p0, .int b0, .int 0, .int 0, .int 0, .int 0, .int 0, .int 0, .int 0, .int 0, .int 0, .int 0, .int 0]))] H := hP
  have hD : va_D A [(h0, .inr (3, [.int n, .int zo, .int w, .int r0, .int p0, .int b0, .int 0, .int 0, .int 0, .int 0, .int 0, .int 0, .int 0, .int 0, .int 0, .int 0, .int 0]))] := hD
  refine lv_aload_n hx hb dX2_init_42 rfl (lv_at hl 0 rfl) ?_
  refine lv_bipush (v := 10) hx hb dX2_init_43 (by decide) ?_
  refine va_put (D := (dC, dI)) (ci := 3) (v := .int 10) (ty := .int) (C := RX2) (T := TX2) (N := 17) hx hb hts (fun _ h => List.mem_cons_of_mem _ (List.mem_append_right _ h)) tyX2 tyX2_ok nmX2 hown hK hP hD hS 0 rfl rfl 14 (by decide) (hts (.fieldLink RX2 33 "FrontDoor$Server" "penalty" "I") (by decide +kernel)) (fun _ h9 => h9) rfl (by decide +kernel) rfl rfl (Nat.le_of_ble_eq_true rfl) dX2_init_45 (fun H locs hP hD hS => ?_)
  have hP : va_P (dC, dI) vwCl [(h0, .inr (3, [.int n, .int zo, .int w, .int r0, .int p0, .int b0, .int 0, .int 0, .int 0, .int 0, .int 0, .int 0, .int 0, .int 0, .int 10, .int 0, .int 0]))] H := hP
  have hD : va_D A [(h0, .inr (3, [.int n, .int zo, .int w, .int r0, .int p0, .int b0, .int 0, .int 0, .int 0, .int 0, .int 0, .int 0, .int 0, .int 0, .int 10, .int 0, .int 0]))] := hD
  have hP9 := hP.sub (ws' := [(h0, .inr (3, [.int n, .int zo, .int w, .int r0, .int p0, .int b0, .int 0, .int 0, .int 0, .int 0, .int 0, .int 0, .int 0, .int 0, .int 10, .int 0, .int 0]))]) [0] rfl
  have hD9 := hD.sub (ws' := [(h0, .inr (3, [.int n, .int zo, .int w, .int r0, .int p0, .int b0, .int 0, .int 0, .int 0, .int 0, .int 0, .int 0, .int 0, .int 0, .int 10, .int 0, .int 0]))]) [0] (by decide) rfl
  have hK9 := hK.sub (tys' := []) [] rfl
  exact W.vret hx hb hr (fun t ht hW => ⟨⟨(), rfl, trivial, ⟨by rw [ht]; exact hP9, va_K.moved hW.alike hK9, hD9⟩⟩, hS.F ht⟩) hS.2.2 dX2_init_48

set_option maxHeartbeats 4000000 in
set_option maxRecDepth 100000 in
theorem k_X1_init (l : Launch) (dC : Nat → ClassId) (dI : Nat → Nat → Nat) (h0 : Nat) (n : Int32) (ky : Int32) (gr : Int32) (cm : Int32) (du : Int32) (sf : Int32) (sz : Nat) (hsf : sf = 0 ∨ sf = 1) : Met l yX1_init wsX1_init ({ frames := 1, cells := 0, slots := 0, locals := 12 }) (va_Pc [.ref h0, .int n, .int ky, .int gr, .int cm, .int du, .int sf] (pzPre (dC, dI) vwCl [(h0, .inr (2, [.int 0, .int 0, .int 0, .int 0, .int 0, .int 0, .int 0, .int 0, .int 0, .int 0, .null, .null]))] [] sz)) (va_Qv (fun _ : Unit => True) (fun (_ : Unit) (t : State) => va_P (dC, dI) vwCl [(h0, .inr (2, [.int n, .int ky, .int gr, .int cm, .int du, .int sf, .int 0, .int 0, .int (-9), .int (-9), .null, .null]))] t.heap ∧ va_K (dC, dI) vwCl [] t ∧ va_D (va_A [(h0, .inr (2, [.int 0, .int 0, .int 0, .int 0, .int 0, .int 0, .int 0, .int 0, .int 0, .int 0, .null, .null]))] sz) [(h0, .inr (2, [.int n, .int ky, .int gr, .int cm, .int du, .int sf, .int 0, .int 0, .int (-9), .int (-9), .null, .null]))]) (va_A [(h0, .inr (2, [.int 0, .int 0, .int 0, .int 0, .int 0, .int 0, .int 0, .int 0, .int 0, .int 0, .null, .null]))] sz)) 0 0 (va_A [(h0, .inr (2, [.int 0, .int 0, .int 0, .int 0, .int 0, .int 0, .int 0, .int 0, .int 0, .int 0, .null, .null]))] sz) := by
  refine Met.ofW (cc := cX1_init) (maxL := 7) (ret := none) (by decide) rfl ?_
  intro p e s m args below meth c s₁ B hml hv
  obtain ⟨rfl, hsz, hP, hK, hD0⟩ := hv
  have hx := B.exec
  have hb := B.bytes
  have hr := B.returns
  have hts := atoms_spec (ws := wsX1_init) B.pre
  have hown : s.vm.findClass RX1 = some m.cls := findClass_of_methodNamed B.named
  have hlocks := B.notSynchronized
  have hin : meth.name = "<init>" := (name_of_methodNamed B.named B.method).1
  subst hsz
  have hD := hD0.self (sz := s.heap.size)
  generalize hAe : va_A [(h0, .inr (2, [.int 0, .int 0, .int 0, .int 0, .int 0, .int 0, .int 0, .int 0, .int 0, .int 0, .null, .null]))] s.heap.size = A at hD ⊢
  have hA : ∀ q : Nat, s.heap.size ≤ q → A q := fun q h => by rw [← hAe]; exact Or.inr h
  have hS : va_S A s.heap s.heap [] := va_S.rf
  have hP : va_P (dC, dI) vwCl [(h0, .inr (2, [.int 0, .int 0, .int 0, .int 0, .int 0, .int 0, .int 0, .int 0, .int 0, .int 0, .null, .null]))] s.heap := hP
  have hnar : narrow .boolean (.int sf) = .int sf := by rcases hsf with h | h <;> rw [h] <;> rfl
  have hfit : fits .boolean (.int sf) = true := by rcases hsf with h | h <;> rw [h] <;> rfl
  have hl := lv_entry ([.ref h0, .int n, .int ky, .int gr, .int cm, .int du, .int sf]) (n := 7) (Nat.le_of_ble_eq_true rfl)
  rw [lg_entry_eq]
  generalize (lg_sl ([.ref h0, .int n, .int ky, .int gr, .int cm, .int du, .int sf]) ++ List.replicate (7 - (lg_sl ([.ref h0, .int n, .int ky, .int gr, .int cm, .int du, .int sf])).length) Slot.unset).toArray = ls at hl ⊢
  have hl : lv_has ls 7 [(0, .ref h0), (1, .int n), (2, .int ky), (3, .int gr), (4, .int cm), (5, .int du), (6, .int sf)] := hl
  refine lv_aload_n hx hb dX1_init_0 rfl (lv_at hl 0 rfl) ?_
  refine W.objInit hx hb hown (hts (.methodLink RX1 3 objectInit) (by decide +kernel)) (hts (.instanceMethod objectInit) (by decide +kernel)) (hts (.code objectInit ⟨#[0xb1]⟩ 1 none) (by decide +kernel)) rfl (by rw [hml]; exact hl.1) rfl dX1_init_1 (Nat.le_of_ble_eq_true rfl) (Nat.le_of_ble_eq_true rfl) ?_
  refine W.eq (g2 := F0 m 4 ls []) rfl ?_
  refine lv_aload_n hx hb dX1_init_4 rfl (lv_at hl 0 rfl) ?_
  refine lv_iload_n hx hb dX1_init_5 rfl (lv_at hl 1 rfl) ?_
  refine va_putF (D := (dC, dI)) (ci := 2) (v := .int n) (ty := .int) (C := RX1) (T := TX1) (N := 12) hx hb hts (fun _ h => List.mem_cons_of_mem _ (List.mem_append_right _ h)) tyX1 tyX1_ok nmX1 hown hK hP hD hS 0 rfl rfl 0 (by decide) (hts (.fieldLink RX1 9 "FrontDoor$Call" "number" "I") (by decide +kernel)) (fun _ h9 => h9) rfl hin rfl (by decide +kernel) rfl rfl (Nat.le_of_ble_eq_true rfl) dX1_init_6 (fun H locs hP hD hS => ?_)
  have hP : va_P (dC, dI) vwCl [(h0, .inr (2, [.int n, .int 0, .int 0, .int 0, .int 0, .int 0, .int 0, .int 0, .int 0, .int 0, .null, .null]))] H := hP
  have hD : va_D A [(h0, .inr (2, [.int n, .int 0, .int 0, .int 0, .int 0, .int 0, .int 0, .int 0, .int 0, .int 0, .null, .null]))] := hD
  refine lv_aload_n hx hb dX1_init_9 rfl (lv_at hl 0 rfl) ?_
  refine lv_iload_n hx hb dX1_init_10 rfl (lv_at hl 2 rfl) ?_
  refine va_putF (D := (dC, dI)) (ci := 2) (v := .int ky) (ty := .int) (C := RX1) (T := TX1) (N := 12) hx hb hts (fun _ h => List.mem_cons_of_mem _ (List.mem_append_right _ h)) tyX1 tyX1_ok nmX1 hown hK hP hD hS 0 rfl rfl 1 (by decide) (hts (.fieldLink RX1 15 "FrontDoor$Call" "key" "I") (by decide +kernel)) (fun _ h9 => h9) rfl hin rfl (by decide +kernel) rfl rfl (Nat.le_of_ble_eq_true rfl) dX1_init_11 (fun H locs hP hD hS => ?_)
  have hP : va_P (dC, dI) vwCl [(h0, .inr (2, [.int n, .int ky, .int 0, .int 0, .int 0, .int 0, .int 0, .int 0, .int 0, .int 0, .null, .null]))] H := hP
  have hD : va_D A [(h0, .inr (2, [.int n, .int ky, .int 0, .int 0, .int 0, .int 0, .int 0, .int 0, .int 0, .int 0, .null, .null]))] := hD
  refine lv_aload_n hx hb dX1_init_14 rfl (lv_at hl 0 rfl) ?_
  refine lv_iload_n hx hb dX1_init_15 rfl (lv_at hl 3 rfl) ?_
  refine va_putF (D := (dC, dI)) (ci := 2) (v := .int gr) (ty := .int) (C := RX1) (T := TX1) (N := 12) hx hb hts (fun _ h => List.mem_cons_of_mem _ (List.mem_append_right _ h)) tyX1 tyX1_ok nmX1 hown hK hP hD hS 0 rfl rfl 2 (by decide) (hts (.fieldLink RX1 18 "FrontDoor$Call" "grade" "I") (by decide +kernel)) (fun _ h9 => h9) rfl hin rfl (by decide +kernel) rfl rfl (Nat.le_of_ble_eq_true rfl) dX1_init_16 (fun H locs hP hD hS => ?_)
  have hP : va_P (dC, dI) vwCl [(h0, .inr (2, [.int n, .int ky, .int gr, .int 0, .int 0, .int 0, .int 0, .int 0, .int 0, .int 0, .null, .null]))] H := hP
  have hD : va_D A [(h0, .inr (2, [.int n, .int ky, .int gr, .int 0, .int 0, .int 0, .int 0, .int 0, .int 0, .int 0, .null, .null]))] := hD
  refine lv_aload_n hx hb dX1_init_19 rfl (lv_at hl 0 rfl) ?_
  refine lv_iload hx hb dX1_init_20 (lv_at hl 4 rfl) ?_
  refine va_putF (D := (dC, dI)) (ci := 2) (v := .int cm) (ty := .int) (C := RX1) (T := TX1) (N := 12) hx hb hts (fun _ h => List.mem_cons_of_mem _ (List.mem_append_right _ h)) tyX1 tyX1_ok nmX1 hown hK hP hD hS 0 rfl rfl 3 (by decide) (hts (.fieldLink RX1 21 "FrontDoor$Call" "came" "I") (by decide +kernel)) (fun _ h9 => h9) rfl hin rfl (by decide +kernel) rfl rfl (Nat.le_of_ble_eq_true rfl) dX1_init_22 (fun H locs hP hD hS => ?_)
  have hP : va_P (dC, dI) vwCl [(h0, .inr (2, [.int n, .int ky, .int gr, .int cm, .int 0, .int 0, .int 0, .int 0, .int 0, .int 0, .null, .null]))] H := hP
  have hD : va_D A [(h0, .inr (2, [.int n, .int ky, .int gr, .int cm, .int 0, .int 0, .int 0, .int 0, .int 0, .int 0, .null, .null]))] := hD
  refine lv_aload_n hx hb dX1_init_25 rfl (lv_at hl 0 rfl) ?_
  refine lv_iload hx hb dX1_init_26 (lv_at hl 5 rfl) ?_
  refine va_putF (D := (dC, dI)) (ci := 2) (v := .int du) (ty := .int) (C := RX1) (T := TX1) (N := 12) hx hb hts (fun _ h => List.mem_cons_of_mem _ (List.mem_append_right _ h)) tyX1 tyX1_ok nmX1 hown hK hP hD hS 0 rfl rfl 4 (by decide) (hts (.fieldLink RX1 24 "FrontDoor$Call" "due" "I") (by decide +kernel)) (fun _ h9 => h9) rfl hin rfl (by decide +kernel) rfl rfl (Nat.le_of_ble_eq_true rfl) dX1_init_28 (fun H locs hP hD hS => ?_)
  have hP : va_P (dC, dI) vwCl [(h0, .inr (2, [.int n, .int ky, .int gr, .int cm, .int du, .int 0, .int 0, .int 0, .int 0, .int 0, .null, .null]))] H := hP
  have hD : va_D A [(h0, .inr (2, [.int n, .int ky, .int gr, .int cm, .int du, .int 0, .int 0, .int 0, .int 0, .int 0, .null, .null]))] := hD
  refine lv_aload_n hx hb dX1_init_31 rfl (lv_at hl 0 rfl) ?_
  refine lv_iload hx hb dX1_init_32 (lv_at hl 6 rfl) ?_
  refine va_putF (D := (dC, dI)) (ci := 2) (v := .int sf) (ty := .boolean) (C := RX1) (T := TX1) (N := 12) hx hb hts (fun _ h => List.mem_cons_of_mem _ (List.mem_append_right _ h)) tyX1 tyX1_ok nmX1 hown hK hP hD hS 0 rfl rfl 5 (by decide) (hts (.fieldLink RX1 27 "FrontDoor$Call" "safe" "Z") (by decide +kernel)) (fun _ h9 => h9) rfl hin rfl (by decide +kernel) hnar hfit (Nat.le_of_ble_eq_true rfl) dX1_init_34 (fun H locs hP hD hS => ?_)
  have hP : va_P (dC, dI) vwCl [(h0, .inr (2, [.int n, .int ky, .int gr, .int cm, .int du, .int sf, .int 0, .int 0, .int 0, .int 0, .null, .null]))] H := hP
  have hD : va_D A [(h0, .inr (2, [.int n, .int ky, .int gr, .int cm, .int du, .int sf, .int 0, .int 0, .int 0, .int 0, .null, .null]))] := hD
  refine lv_aload_n hx hb dX1_init_37 rfl (lv_at hl 0 rfl) ?_
  refine lv_iconst (v := 0) hx hb dX1_init_38 (by decide) ?_
  refine va_put (D := (dC, dI)) (ci := 2) (v := .int 0) (ty := .int) (C := RX1) (T := TX1) (N := 12) hx hb hts (fun _ h => List.mem_cons_of_mem _ (List.mem_append_right _ h)) tyX1 tyX1_ok nmX1 hown hK hP hD hS 0 rfl rfl 6 (by decide) (hts (.fieldLink RX1 31 "FrontDoor$Call" "state" "I") (by decide +kernel)) (fun _ h9 => h9) rfl (by decide +kernel) rfl rfl (Nat.le_of_ble_eq_true rfl) dX1_init_39 (fun H locs hP hD hS => ?_)
  have hP : va_P (dC, dI) vwCl [(h0, .inr (2, [.int n, .int ky, .int gr, .int cm, .int du, .int sf, .int 0, .int 0, .int 0, .int 0, .null, .null]))] H := hP
  have hD : va_D A [(h0, .inr (2, [.int n, .int ky, .int gr, .int cm, .int du, .int sf, .int 0, .int 0, .int 0, .int 0, .null, .null]))] := hD
  refine lv_aload_n hx hb dX1_init_42 rfl (lv_at hl 0 rfl) ?_
  refine lv_bipush (v := (-9)) hx hb dX1_init_43 (by decide) ?_
  refine va_put (D := (dC, dI)) (ci := 2) (v := .int (-9)) (ty := .int) (C := RX1) (T := TX1) (N := 12) hx hb hts (fun _ h => List.mem_cons_of_mem _ (List.mem_append_right _ h)) tyX1 tyX1_ok nmX1 hown hK hP hD hS 0 rfl rfl 8 (by decide) (hts (.fieldLink RX1 34 "FrontDoor$Call" "ended" "I") (by decide +kernel)) (fun _ h9 => h9) rfl (by decide +kernel) rfl rfl (Nat.le_of_ble_eq_true rfl) dX1_init_45 (fun H locs hP hD hS => ?_)
  have hP : va_P (dC, dI) vwCl [(h0, .inr (2, [.int n, .int ky, .int gr, .int cm, .int du, .int sf, .int 0, .int 0, .int (-9), .int 0, .null, .null]))] H := hP
  have hD : va_D A [(h0, .inr (2, [.int n, .int ky, .int gr, .int cm, .int du, .int sf, .int 0, .int 0, .int (-9), .int 0, .null, .null]))] := hD
  refine lv_aload_n hx hb dX1_init_48 rfl (lv_at hl 0 rfl) ?_
  refine lv_bipush (v := (-9)) hx hb dX1_init_49 (by decide) ?_
  refine va_put (D := (dC, dI)) (ci := 2) (v := .int (-9)) (ty := .int) (C := RX1) (T := TX1) (N := 12) hx hb hts (fun _ h => List.mem_cons_of_mem _ (List.mem_append_right _ h)) tyX1 tyX1_ok nmX1 hown hK hP hD hS 0 rfl rfl 9 (by decide) (hts (.fieldLink RX1 37 "FrontDoor$Call" "answerer" "I") (by decide +kernel)) (fun _ h9 => h9) rfl (by decide +kernel) rfl rfl (Nat.le_of_ble_eq_true rfl) dX1_init_51 (fun H locs hP hD hS => ?_)
  have hP : va_P (dC, dI) vwCl [(h0, .inr (2, [.int n, .int ky, .int gr, .int cm, .int du, .int sf, .int 0, .int 0, .int (-9), .int (-9), .null, .null]))] H := hP
  have hD : va_D A [(h0, .inr (2, [.int n, .int ky, .int gr, .int cm, .int du, .int sf, .int 0, .int 0, .int (-9), .int (-9), .null, .null]))] := hD
  have hP9 := hP.sub (ws' := [(h0, .inr (2, [.int n, .int ky, .int gr, .int cm, .int du, .int sf, .int 0, .int 0, .int (-9), .int (-9), .null, .null]))]) [0] rfl
  have hD9 := hD.sub (ws' := [(h0, .inr (2, [.int n, .int ky, .int gr, .int cm, .int du, .int sf, .int 0, .int 0, .int (-9), .int (-9), .null, .null]))]) [0] (by decide) rfl
  have hK9 := hK.sub (tys' := []) [] rfl
  exact W.vret hx hb hr (fun t ht hW => ⟨⟨(), rfl, trivial, ⟨by rw [ht]; exact hP9, va_K.moved hW.alike hK9, hD9⟩⟩, hS.F ht⟩) hS.2.2 dX1_init_54
end
section
set_option maxRecDepth 20000 in
theorem ggX3_init_Jx4a65c_init_da8c8 : GoodIn wsX3_init wsJx4a65c_init_da8c8 := goodIn_r _ [18, 19, 20, 21, 22, 23, 24, 25, 26, 27, 28, 29, 30, 2, 3, 31, 32, 33] (by decide +kernel) (by decide +kernel)
set_option maxRecDepth 20000 in
theorem gX3_init_Jx4a65c_init_da8c8 : GoodIn wsX3_init (wsJx4a65c_init_da8c8) := ggX3_init_Jx4a65c_init_da8c8
theorem dX3_init_0 : decode cX3_init 0 = .ok (.aload_n 0, 1) := by decide +kernel
theorem dX3_init_1 : decode cX3_init 1 = .ok (.invokespecial 1, 3) := by decide +kernel
theorem dX3_init_4 : decode cX3_init 4 = .ok (.aload_n 0, 1) := by decide +kernel
theorem dX3_init_5 : decode cX3_init 5 = .ok (.new 7, 3) := by decide +kernel
theorem dX3_init_8 : decode cX3_init 8 = .ok (.dup, 1) := by decide +kernel
theorem dX3_init_9 : decode cX3_init 9 = .ok (.invokespecial 9, 3) := by decide +kernel
theorem dX3_init_12 : decode cX3_init 12 = .ok (.putfield 10, 3) := by decide +kernel
theorem dX3_init_15 : decode cX3_init 15 = .ok (.aload_n 0, 1) := by decide +kernel
theorem dX3_init_16 : decode cX3_init 16 = .ok (.new 7, 3) := by decide +kernel
theorem dX3_init_19 : decode cX3_init 19 = .ok (.dup, 1) := by decide +kernel
theorem dX3_init_20 : decode cX3_init 20 = .ok (.invokespecial 9, 3) := by decide +kernel
theorem dX3_init_23 : decode cX3_init 23 = .ok (.putfield 16, 3) := by decide +kernel
theorem dX3_init_26 : decode cX3_init 26 = .ok (.aload_n 0, 1) := by decide +kernel
theorem dX3_init_27 : decode cX3_init 27 = .ok (.new 7, 3) := by decide +kernel
theorem dX3_init_30 : decode cX3_init 30 = .ok (.dup, 1) := by decide +kernel
theorem dX3_init_31 : decode cX3_init 31 = .ok (.invokespecial 9, 3) := by decide +kernel
theorem dX3_init_34 : decode cX3_init 34 = .ok (.putfield 19, 3) := by decide +kernel
theorem dX3_init_37 : decode cX3_init 37 = .ok (.aload_n 0, 1) := by decide +kernel
theorem dX3_init_38 : decode cX3_init 38 = .ok (.new 7, 3) := by decide +kernel
theorem dX3_init_41 : decode cX3_init 41 = .ok (.dup, 1) := by decide +kernel
theorem dX3_init_42 : decode cX3_init 42 = .ok (.invokespecial 9, 3) := by decide +kernel
theorem dX3_init_45 : decode cX3_init 45 = .ok (.putfield 22, 3) := by decide +kernel
theorem dX3_init_48 : decode cX3_init 48 = .ok (.aload_n 0, 1) := by decide +kernel
theorem dX3_init_49 : decode cX3_init 49 = .ok (.bipush 7, 2) := by decide +kernel
theorem dX3_init_51 : decode cX3_init 51 = .ok (.newarray .int, 2) := by decide +kernel
theorem dX3_init_53 : decode cX3_init 53 = .ok (.putfield 25, 3) := by decide +kernel
theorem dX3_init_56 : decode cX3_init 56 = .ok (.aload_n 0, 1) := by decide +kernel
theorem dX3_init_57 : decode cX3_init 57 = .ok (.iconst 0, 1) := by decide +kernel
theorem dX3_init_58 : decode cX3_init 58 = .ok (.putfield 29, 3) := by decide +kernel
theorem dX3_init_61 : decode cX3_init 61 = .ok (.aload_n 0, 1) := by decide +kernel
theorem dX3_init_62 : decode cX3_init 62 = .ok (.iconst 3, 1) := by decide +kernel
theorem dX3_init_63 : decode cX3_init 63 = .ok (.putfield 33, 3) := by decide +kernel
theorem dX3_init_66 : decode cX3_init 66 = .ok (.aload_n 0, 1) := by decide +kernel
theorem dX3_init_67 : decode cX3_init 67 = .ok (.bipush 20, 2) := by decide +kernel
theorem dX3_init_69 : decode cX3_init 69 = .ok (.putfield 36, 3) := by decide +kernel
theorem dX3_init_72 : decode cX3_init 72 = .ok (.return_, 1) := by decide +kernel
theorem dX3_refuse_0 : decode cX3_refuse 0 = .ok (.iload_n 1, 1) := by decide +kernel
theorem dX3_refuse_1 : decode cX3_refuse 1 = .ok (.ineg, 1) := by decide +kernel
theorem dX3_refuse_2 : decode cX3_refuse 2 = .ok (.istore_n 2, 1) := by decide +kernel
theorem dX3_refuse_3 : decode cX3_refuse 3 = .ok (.iload_n 2, 1) := by decide +kernel
theorem dX3_refuse_4 : decode cX3_refuse 4 = .ok (.ifCond .lt 22, 3) := by decide +kernel
theorem dX3_refuse_7 : decode cX3_refuse 7 = .ok (.iload_n 2, 1) := by decide +kernel
theorem dX3_refuse_8 : decode cX3_refuse 8 = .ok (.aload_n 0, 1) := by decide +kernel
theorem dX3_refuse_9 : decode cX3_refuse 9 = .ok (.getfield 25, 3) := by decide +kernel
theorem dX3_refuse_12 : decode cX3_refuse 12 = .ok (.arraylength, 1) := by decide +kernel
theorem dX3_refuse_13 : decode cX3_refuse 13 = .ok (.if_icmp .ge 13, 3) := by decide +kernel
theorem dX3_refuse_16 : decode cX3_refuse 16 = .ok (.aload_n 0, 1) := by decide +kernel
theorem dX3_refuse_17 : decode cX3_refuse 17 = .ok (.getfield 25, 3) := by decide +kernel
theorem dX3_refuse_20 : decode cX3_refuse 20 = .ok (.iload_n 2, 1) := by decide +kernel
theorem dX3_refuse_21 : decode cX3_refuse 21 = .ok (.dup2, 1) := by decide +kernel
theorem dX3_refuse_22 : decode cX3_refuse 22 = .ok (.iaload, 1) := by decide +kernel
theorem dX3_refuse_23 : decode cX3_refuse 23 = .ok (.iconst 1, 1) := by decide +kernel
theorem dX3_refuse_24 : decode cX3_refuse 24 = .ok (.iadd, 1) := by decide +kernel
theorem dX3_refuse_25 : decode cX3_refuse 25 = .ok (.iastore, 1) := by decide +kernel
theorem dX3_refuse_26 : decode cX3_refuse 26 = .ok (.iload_n 1, 1) := by decide +kernel
theorem dX3_refuse_27 : decode cX3_refuse 27 = .ok (.ireturn, 1) := by decide +kernel
theorem dX3_faultOf_0 : decode cX3_faultOf 0 = .ok (.iload_n 0, 1) := by decide +kernel
theorem dX3_faultOf_1 : decode cX3_faultOf 1 = .ok (.iload_n 1, 1) := by decide +kernel
theorem dX3_faultOf_2 : decode cX3_faultOf 2 = .ok (.if_icmp .ge 8, 3) := by decide +kernel
theorem dX3_faultOf_5 : decode cX3_faultOf 5 = .ok (.bipush (-4), 2) := by decide +kernel
theorem dX3_faultOf_7 : decode cX3_faultOf 7 = .ok (.goto 14, 3) := by decide +kernel
theorem dX3_faultOf_10 : decode cX3_faultOf 10 = .ok (.iload_n 0, 1) := by decide +kernel
theorem dX3_faultOf_11 : decode cX3_faultOf 11 = .ok (.iload_n 2, 1) := by decide +kernel
theorem dX3_faultOf_12 : decode cX3_faultOf 12 = .ok (.if_icmp .le 8, 3) := by decide +kernel
theorem dX3_faultOf_15 : decode cX3_faultOf 15 = .ok (.bipush (-6), 2) := by decide +kernel
theorem dX3_faultOf_17 : decode cX3_faultOf 17 = .ok (.goto 4, 3) := by decide +kernel
theorem dX3_faultOf_20 : decode cX3_faultOf 20 = .ok (.iconst 0, 1) := by decide +kernel
theorem dX3_faultOf_21 : decode cX3_faultOf 21 = .ok (.ireturn, 1) := by decide +kernel
set_option maxRecDepth 20000 in
theorem ggX3_serverAt_Jx4a65c_size_8abf5 : GoodIn wsX3_serverAt wsJx4a65c_size_8abf5 := goodIn_r _ [7, 8, 39, 40, 41] (by decide +kernel) (by decide +kernel)
set_option maxRecDepth 20000 in
theorem gX3_serverAt_Jx4a65c_size_8abf5 : GoodIn wsX3_serverAt (wsV RX3 43 RJx4a65c yJx4a65c_size_8abf5 wsJx4a65c_size_8abf5) := goodIn_app (goodIn_of _ (by decide +kernel)) ggX3_serverAt_Jx4a65c_size_8abf5
set_option maxRecDepth 20000 in
theorem ggX3_serverAt_Jx4a65c_get_915e3 : GoodIn wsX3_serverAt wsJx4a65c_get_915e3 := goodIn_r _ [12, 8, 13, 14, 15, 16, 17, 18, 19, 20, 21, 22, 23, 6, 24, 25, 39, 40, 41] (by decide +kernel) (by decide +kernel)
set_option maxRecDepth 20000 in
theorem gX3_serverAt_Jx4a65c_get_915e3 : GoodIn wsX3_serverAt (wsV RX3 151 RJx4a65c yJx4a65c_get_915e3 wsJx4a65c_get_915e3) := goodIn_app (goodIn_of _ (by decide +kernel)) ggX3_serverAt_Jx4a65c_get_915e3
theorem dX3_serverAt_0 : decode cX3_serverAt 0 = .ok (.iload_n 1, 1) := by decide +kernel
theorem dX3_serverAt_1 : decode cX3_serverAt 1 = .ok (.ifCond .lt 14, 3) := by decide +kernel
theorem dX3_serverAt_4 : decode cX3_serverAt 4 = .ok (.iload_n 1, 1) := by decide +kernel
theorem dX3_serverAt_5 : decode cX3_serverAt 5 = .ok (.aload_n 0, 1) := by decide +kernel
theorem dX3_serverAt_6 : decode cX3_serverAt 6 = .ok (.getfield 10, 3) := by decide +kernel
theorem dX3_serverAt_9 : decode cX3_serverAt 9 = .ok (.invokevirtual 43, 3) := by decide +kernel
theorem dX3_serverAt_12 : decode cX3_serverAt 12 = .ok (.if_icmp .lt 7, 3) := by decide +kernel
theorem dX3_serverAt_15 : decode cX3_serverAt 15 = .ok (.aconst_null, 1) := by decide +kernel
theorem dX3_serverAt_16 : decode cX3_serverAt 16 = .ok (.goto 14, 3) := by decide +kernel
theorem dX3_serverAt_19 : decode cX3_serverAt 19 = .ok (.aload_n 0, 1) := by decide +kernel
theorem dX3_serverAt_20 : decode cX3_serverAt 20 = .ok (.getfield 10, 3) := by decide +kernel
theorem dX3_serverAt_23 : decode cX3_serverAt 23 = .ok (.iload_n 1, 1) := by decide +kernel
theorem dX3_serverAt_24 : decode cX3_serverAt 24 = .ok (.invokevirtual 151, 3) := by decide +kernel
theorem dX3_serverAt_27 : decode cX3_serverAt 27 = .ok (.checkcast 47, 3) := by decide +kernel
theorem dX3_serverAt_30 : decode cX3_serverAt 30 = .ok (.areturn, 1) := by decide +kernel
set_option maxRecDepth 20000 in
theorem ggX3_callAt_Jx4a65c_size_8abf5 : GoodIn wsX3_callAt wsJx4a65c_size_8abf5 := goodIn_r _ [7, 8, 39, 40, 41] (by decide +kernel) (by decide +kernel)
set_option maxRecDepth 20000 in
theorem gX3_callAt_Jx4a65c_size_8abf5 : GoodIn wsX3_callAt (wsV RX3 43 RJx4a65c yJx4a65c_size_8abf5 wsJx4a65c_size_8abf5) := goodIn_app (goodIn_of _ (by decide +kernel)) ggX3_callAt_Jx4a65c_size_8abf5
set_option maxRecDepth 20000 in
theorem ggX3_callAt_Jx4a65c_get_915e3 : GoodIn wsX3_callAt wsJx4a65c_get_915e3 := goodIn_r _ [12, 8, 13, 14, 15, 16, 17, 18, 19, 20, 21, 22, 23, 6, 24, 25, 39, 40, 41] (by decide +kernel) (by decide +kernel)
set_option maxRecDepth 20000 in
theorem gX3_callAt_Jx4a65c_get_915e3 : GoodIn wsX3_callAt (wsV RX3 151 RJx4a65c yJx4a65c_get_915e3 wsJx4a65c_get_915e3) := goodIn_app (goodIn_of _ (by decide +kernel)) ggX3_callAt_Jx4a65c_get_915e3
theorem dX3_callAt_0 : decode cX3_callAt 0 = .ok (.iload_n 1, 1) := by decide +kernel
theorem dX3_callAt_1 : decode cX3_callAt 1 = .ok (.ifCond .lt 14, 3) := by decide +kernel
theorem dX3_callAt_4 : decode cX3_callAt 4 = .ok (.iload_n 1, 1) := by decide +kernel
theorem dX3_callAt_5 : decode cX3_callAt 5 = .ok (.aload_n 0, 1) := by decide +kernel
theorem dX3_callAt_6 : decode cX3_callAt 6 = .ok (.getfield 16, 3) := by decide +kernel
theorem dX3_callAt_9 : decode cX3_callAt 9 = .ok (.invokevirtual 43, 3) := by decide +kernel
theorem dX3_callAt_12 : decode cX3_callAt 12 = .ok (.if_icmp .lt 7, 3) := by decide +kernel
theorem dX3_callAt_15 : decode cX3_callAt 15 = .ok (.aconst_null, 1) := by decide +kernel
theorem dX3_callAt_16 : decode cX3_callAt 16 = .ok (.goto 14, 3) := by decide +kernel
theorem dX3_callAt_19 : decode cX3_callAt 19 = .ok (.aload_n 0, 1) := by decide +kernel
theorem dX3_callAt_20 : decode cX3_callAt 20 = .ok (.getfield 16, 3) := by decide +kernel
theorem dX3_callAt_23 : decode cX3_callAt 23 = .ok (.iload_n 1, 1) := by decide +kernel
theorem dX3_callAt_24 : decode cX3_callAt 24 = .ok (.invokevirtual 151, 3) := by decide +kernel
theorem dX3_callAt_27 : decode cX3_callAt 27 = .ok (.checkcast 93, 3) := by decide +kernel
theorem dX3_callAt_30 : decode cX3_callAt 30 = .ok (.areturn, 1) := by decide +kernel
set_option maxRecDepth 20000 in
theorem ggX3_set_X3_serverAt : GoodIn wsX3_set wsX3_serverAt := goodIn_r _ [6, 7, 8, 9, 10, 11, 12, 13, 14, 15, 16, 17, 18, 19, 20, 21, 22, 23, 24, 25, 26, 27, 28, 29, 30, 31, 89, 90, 91, 92, 93, 94, 95, 96, 97, 98, 99, 100, 101, 102, 103, 104] (by decide +kernel) (by decide +kernel)
set_option maxRecDepth 20000 in
theorem gX3_set_X3_serverAt : GoodIn wsX3_set (wsV RX3 59 RX3 yX3_serverAt wsX3_serverAt) := goodIn_app (goodIn_of _ (by decide +kernel)) ggX3_set_X3_serverAt
set_option maxRecDepth 20000 in
theorem ggX3_set_X3_refuse : GoodIn wsX3_set wsX3_refuse := goodIn_r _ [35, 36, 89, 90, 91, 92, 93, 94, 95, 96, 97, 98, 99, 100, 101] (by decide +kernel) (by decide +kernel)
set_option maxRecDepth 20000 in
theorem gX3_set_X3_refuse : GoodIn wsX3_set (wsV RX3 39 RX3 yX3_refuse wsX3_refuse) := goodIn_app (goodIn_of _ (by decide +kernel)) ggX3_set_X3_refuse
set_option maxRecDepth 20000 in
theorem ggX3_set_X3_leastOf : GoodIn wsX3_set wsX3_leastOf := goodIn_r _ [39] (by decide +kernel) (by decide +kernel)
set_option maxRecDepth 20000 in
theorem gX3_set_X3_leastOf : GoodIn wsX3_set (va_wsS RX3 66 yX3_leastOf wsX3_leastOf) := goodIn_app (goodIn_of _ (by decide +kernel)) ggX3_set_X3_leastOf
set_option maxRecDepth 20000 in
theorem ggX3_set_X3_greatestOf : GoodIn wsX3_set wsX3_greatestOf := goodIn_r _ [42] (by decide +kernel) (by decide +kernel)
set_option maxRecDepth 20000 in
theorem gX3_set_X3_greatestOf : GoodIn wsX3_set (va_wsS RX3 69 yX3_greatestOf wsX3_greatestOf) := goodIn_app (goodIn_of _ (by decide +kernel)) ggX3_set_X3_greatestOf
set_option maxRecDepth 20000 in
theorem ggX3_set_X3_faultOf : GoodIn wsX3_set wsX3_faultOf := goodIn_r _ [45] (by decide +kernel) (by decide +kernel)
set_option maxRecDepth 20000 in
theorem gX3_set_X3_faultOf : GoodIn wsX3_set (va_wsS RX3 72 yX3_faultOf wsX3_faultOf) := goodIn_app (goodIn_of _ (by decide +kernel)) ggX3_set_X3_faultOf
set_option maxRecDepth 20000 in
theorem ggX3_set_X2_change : GoodIn wsX3_set wsX2_change := goodIn_r _ [50, 51, 52, 53, 54, 55, 56, 57, 58, 49, 59, 60, 61, 62, 63, 64, 65, 66, 67, 68, 69, 70, 71, 72, 73, 74, 75, 76, 77, 78, 79, 80, 81, 82, 83, 84, 85, 86, 87, 88] (by decide +kernel) (by decide +kernel)
set_option maxRecDepth 20000 in
theorem gX3_set_X2_change : GoodIn wsX3_set (wsV RX3 76 RX2 yX2_change wsX2_change) := goodIn_app (goodIn_of _ (by decide +kernel)) ggX3_set_X2_change
theorem dX3_set_0 : decode cX3_set 0 = .ok (.aload_n 0, 1) := by decide +kernel
theorem dX3_set_1 : decode cX3_set 1 = .ok (.iload_n 1, 1) := by decide +kernel
theorem dX3_set_2 : decode cX3_set 2 = .ok (.invokevirtual 59, 3) := by decide +kernel
theorem dX3_set_5 : decode cX3_set 5 = .ok (.astore 4, 2) := by decide +kernel
theorem dX3_set_7 : decode cX3_set 7 = .ok (.aload 4, 2) := by decide +kernel
theorem dX3_set_9 : decode cX3_set 9 = .ok (.ifnonnull 9, 3) := by decide +kernel
theorem dX3_set_12 : decode cX3_set 12 = .ok (.aload_n 0, 1) := by decide +kernel
theorem dX3_set_13 : decode cX3_set 13 = .ok (.iconst (-1), 1) := by decide +kernel
theorem dX3_set_14 : decode cX3_set 14 = .ok (.invokevirtual 39, 3) := by decide +kernel
theorem dX3_set_17 : decode cX3_set 17 = .ok (.ireturn, 1) := by decide +kernel
theorem dX3_set_18 : decode cX3_set 18 = .ok (.iload_n 2, 1) := by decide +kernel
theorem dX3_set_19 : decode cX3_set 19 = .ok (.ifCond .lt 8, 3) := by decide +kernel
theorem dX3_set_22 : decode cX3_set 22 = .ok (.iload_n 2, 1) := by decide +kernel
theorem dX3_set_23 : decode cX3_set 23 = .ok (.iconst 4, 1) := by decide +kernel
theorem dX3_set_24 : decode cX3_set 24 = .ok (.if_icmp .le 10, 3) := by decide +kernel
theorem dX3_set_27 : decode cX3_set 27 = .ok (.aload_n 0, 1) := by decide +kernel
theorem dX3_set_28 : decode cX3_set 28 = .ok (.bipush (-2), 2) := by decide +kernel
theorem dX3_set_30 : decode cX3_set 30 = .ok (.invokevirtual 39, 3) := by decide +kernel
theorem dX3_set_33 : decode cX3_set 33 = .ok (.ireturn, 1) := by decide +kernel
theorem dX3_set_34 : decode cX3_set 34 = .ok (.aload 4, 2) := by decide +kernel
theorem dX3_set_36 : decode cX3_set 36 = .ok (.getfield 63, 3) := by decide +kernel
theorem dX3_set_39 : decode cX3_set 39 = .ok (.iconst 4, 1) := by decide +kernel
theorem dX3_set_40 : decode cX3_set 40 = .ok (.if_icmp .ne 10, 3) := by decide +kernel
theorem dX3_set_43 : decode cX3_set 43 = .ok (.aload_n 0, 1) := by decide +kernel
theorem dX3_set_44 : decode cX3_set 44 = .ok (.bipush (-3), 2) := by decide +kernel
theorem dX3_set_46 : decode cX3_set 46 = .ok (.invokevirtual 39, 3) := by decide +kernel
theorem dX3_set_49 : decode cX3_set 49 = .ok (.ireturn, 1) := by decide +kernel
theorem dX3_set_50 : decode cX3_set 50 = .ok (.iload_n 3, 1) := by decide +kernel
theorem dX3_set_51 : decode cX3_set 51 = .ok (.iload_n 2, 1) := by decide +kernel
theorem dX3_set_52 : decode cX3_set 52 = .ok (.invokestatic 66, 3) := by decide +kernel
theorem dX3_set_55 : decode cX3_set 55 = .ok (.iload_n 2, 1) := by decide +kernel
theorem dX3_set_56 : decode cX3_set 56 = .ok (.invokestatic 69, 3) := by decide +kernel
theorem dX3_set_59 : decode cX3_set 59 = .ok (.invokestatic 72, 3) := by decide +kernel
theorem dX3_set_62 : decode cX3_set 62 = .ok (.istore 5, 2) := by decide +kernel
theorem dX3_set_64 : decode cX3_set 64 = .ok (.iload 5, 2) := by decide +kernel
theorem dX3_set_66 : decode cX3_set 66 = .ok (.ifCond .eq 12, 3) := by decide +kernel
theorem dX3_set_69 : decode cX3_set 69 = .ok (.aload_n 0, 1) := by decide +kernel
theorem dX3_set_70 : decode cX3_set 70 = .ok (.iload 5, 2) := by decide +kernel
theorem dX3_set_72 : decode cX3_set 72 = .ok (.invokevirtual 39, 3) := by decide +kernel
theorem dX3_set_75 : decode cX3_set 75 = .ok (.goto 10, 3) := by decide +kernel
theorem dX3_set_78 : decode cX3_set 78 = .ok (.aload 4, 2) := by decide +kernel
theorem dX3_set_80 : decode cX3_set 80 = .ok (.iload_n 2, 1) := by decide +kernel
theorem dX3_set_81 : decode cX3_set 81 = .ok (.iload_n 3, 1) := by decide +kernel
theorem dX3_set_82 : decode cX3_set 82 = .ok (.invokevirtual 76, 3) := by decide +kernel
theorem dX3_set_85 : decode cX3_set 85 = .ok (.ireturn, 1) := by decide +kernel
set_option maxRecDepth 20000 in
theorem ggX3_drain_X3_serverAt : GoodIn wsX3_drain wsX3_serverAt := goodIn_r _ [7, 8, 9, 10, 11, 12, 13, 14, 15, 16, 17, 18, 19, 20, 21, 22, 23, 24, 25, 26, 27, 28, 29, 30, 31, 32, 55, 56, 57, 58, 59, 60, 61, 62, 63, 64, 65, 66, 67, 68, 69, 70] (by decide +kernel) (by decide +kernel)
set_option maxRecDepth 20000 in
theorem gX3_drain_X3_serverAt : GoodIn wsX3_drain (wsV RX3 59 RX3 yX3_serverAt wsX3_serverAt) := goodIn_app (goodIn_of _ (by decide +kernel)) ggX3_drain_X3_serverAt
set_option maxRecDepth 20000 in
theorem ggX3_drain_X3_refuse : GoodIn wsX3_drain wsX3_refuse := goodIn_r _ [36, 37, 55, 56, 57, 58, 59, 60, 61, 62, 63, 64, 65, 66, 67] (by decide +kernel) (by decide +kernel)
set_option maxRecDepth 20000 in
theorem gX3_drain_X3_refuse : GoodIn wsX3_drain (wsV RX3 39 RX3 yX3_refuse wsX3_refuse) := goodIn_app (goodIn_of _ (by decide +kernel)) ggX3_drain_X3_refuse
theorem dX3_drain_0 : decode cX3_drain 0 = .ok (.aload_n 0, 1) := by decide +kernel
theorem dX3_drain_1 : decode cX3_drain 1 = .ok (.iload_n 1, 1) := by decide +kernel
theorem dX3_drain_2 : decode cX3_drain 2 = .ok (.invokevirtual 59, 3) := by decide +kernel
theorem dX3_drain_5 : decode cX3_drain 5 = .ok (.astore_n 2, 1) := by decide +kernel
theorem dX3_drain_6 : decode cX3_drain 6 = .ok (.aload_n 2, 1) := by decide +kernel
theorem dX3_drain_7 : decode cX3_drain 7 = .ok (.ifnonnull 9, 3) := by decide +kernel
theorem dX3_drain_10 : decode cX3_drain 10 = .ok (.aload_n 0, 1) := by decide +kernel
theorem dX3_drain_11 : decode cX3_drain 11 = .ok (.iconst (-1), 1) := by decide +kernel
theorem dX3_drain_12 : decode cX3_drain 12 = .ok (.invokevirtual 39, 3) := by decide +kernel
theorem dX3_drain_15 : decode cX3_drain 15 = .ok (.ireturn, 1) := by decide +kernel
theorem dX3_drain_16 : decode cX3_drain 16 = .ok (.aload_n 2, 1) := by decide +kernel
theorem dX3_drain_17 : decode cX3_drain 17 = .ok (.getfield 63, 3) := by decide +kernel
theorem dX3_drain_20 : decode cX3_drain 20 = .ok (.iconst 3, 1) := by decide +kernel
theorem dX3_drain_21 : decode cX3_drain 21 = .ok (.if_icmp .eq 11, 3) := by decide +kernel
theorem dX3_drain_24 : decode cX3_drain 24 = .ok (.aload_n 2, 1) := by decide +kernel
theorem dX3_drain_25 : decode cX3_drain 25 = .ok (.getfield 63, 3) := by decide +kernel
theorem dX3_drain_28 : decode cX3_drain 28 = .ok (.iconst 4, 1) := by decide +kernel
theorem dX3_drain_29 : decode cX3_drain 29 = .ok (.if_icmp .ne 10, 3) := by decide +kernel
theorem dX3_drain_32 : decode cX3_drain 32 = .ok (.aload_n 0, 1) := by decide +kernel
theorem dX3_drain_33 : decode cX3_drain 33 = .ok (.bipush (-3), 2) := by decide +kernel
theorem dX3_drain_35 : decode cX3_drain 35 = .ok (.invokevirtual 39, 3) := by decide +kernel
theorem dX3_drain_38 : decode cX3_drain 38 = .ok (.ireturn, 1) := by decide +kernel
theorem dX3_drain_39 : decode cX3_drain 39 = .ok (.aload_n 2, 1) := by decide +kernel
theorem dX3_drain_40 : decode cX3_drain 40 = .ok (.aload_n 2, 1) := by decide +kernel
theorem dX3_drain_41 : decode cX3_drain 41 = .ok (.getfield 80, 3) := by decide +kernel
theorem dX3_drain_44 : decode cX3_drain 44 = .ok (.ifCond .ne 7, 3) := by decide +kernel
theorem dX3_drain_47 : decode cX3_drain 47 = .ok (.iconst 4, 1) := by decide +kernel
theorem dX3_drain_48 : decode cX3_drain 48 = .ok (.goto 4, 3) := by decide +kernel
theorem dX3_drain_51 : decode cX3_drain 51 = .ok (.iconst 3, 1) := by decide +kernel
theorem dX3_drain_52 : decode cX3_drain 52 = .ok (.putfield 63, 3) := by decide +kernel
theorem dX3_drain_55 : decode cX3_drain 55 = .ok (.aload_n 2, 1) := by decide +kernel
theorem dX3_drain_56 : decode cX3_drain 56 = .ok (.getfield 80, 3) := by decide +kernel
theorem dX3_drain_59 : decode cX3_drain 59 = .ok (.ireturn, 1) := by decide +kernel
set_option maxRecDepth 20000 in
theorem ggX3_back_X3_serverAt : GoodIn wsX3_back wsX3_serverAt := goodIn_r _ [8, 9, 10, 11, 12, 13, 14, 15, 16, 17, 18, 19, 20, 21, 22, 23, 24, 25, 26, 27, 28, 29, 30, 31, 32, 33, 56, 57, 58, 59, 60, 61, 62, 63, 64, 65, 66, 67, 68, 69, 70, 71] (by decide +kernel) (by decide +kernel)
set_option maxRecDepth 20000 in
theorem gX3_back_X3_serverAt : GoodIn wsX3_back (wsV RX3 59 RX3 yX3_serverAt wsX3_serverAt) := goodIn_app (goodIn_of _ (by decide +kernel)) ggX3_back_X3_serverAt
set_option maxRecDepth 20000 in
theorem ggX3_back_X3_refuse : GoodIn wsX3_back wsX3_refuse := goodIn_r _ [37, 38, 56, 57, 58, 59, 60, 61, 62, 63, 64, 65, 66, 67, 68] (by decide +kernel) (by decide +kernel)
set_option maxRecDepth 20000 in
theorem gX3_back_X3_refuse : GoodIn wsX3_back (wsV RX3 39 RX3 yX3_refuse wsX3_refuse) := goodIn_app (goodIn_of _ (by decide +kernel)) ggX3_back_X3_refuse
theorem dX3_back_0 : decode cX3_back 0 = .ok (.aload_n 0, 1) := by decide +kernel
theorem dX3_back_1 : decode cX3_back 1 = .ok (.iload_n 1, 1) := by decide +kernel
theorem dX3_back_2 : decode cX3_back 2 = .ok (.invokevirtual 59, 3) := by decide +kernel
theorem dX3_back_5 : decode cX3_back 5 = .ok (.astore_n 2, 1) := by decide +kernel
theorem dX3_back_6 : decode cX3_back 6 = .ok (.aload_n 2, 1) := by decide +kernel
theorem dX3_back_7 : decode cX3_back 7 = .ok (.ifnonnull 9, 3) := by decide +kernel
theorem dX3_back_10 : decode cX3_back 10 = .ok (.aload_n 0, 1) := by decide +kernel
theorem dX3_back_11 : decode cX3_back 11 = .ok (.iconst (-1), 1) := by decide +kernel
theorem dX3_back_12 : decode cX3_back 12 = .ok (.invokevirtual 39, 3) := by decide +kernel
theorem dX3_back_15 : decode cX3_back 15 = .ok (.ireturn, 1) := by decide +kernel
theorem dX3_back_16 : decode cX3_back 16 = .ok (.aload_n 2, 1) := by decide +kernel
theorem dX3_back_17 : decode cX3_back 17 = .ok (.getfield 63, 3) := by decide +kernel
theorem dX3_back_20 : decode cX3_back 20 = .ok (.iconst 3, 1) := by decide +kernel
theorem dX3_back_21 : decode cX3_back 21 = .ok (.if_icmp .eq 18, 3) := by decide +kernel
theorem dX3_back_24 : decode cX3_back 24 = .ok (.aload_n 2, 1) := by decide +kernel
theorem dX3_back_25 : decode cX3_back 25 = .ok (.getfield 63, 3) := by decide +kernel
theorem dX3_back_28 : decode cX3_back 28 = .ok (.iconst 4, 1) := by decide +kernel
theorem dX3_back_29 : decode cX3_back 29 = .ok (.if_icmp .eq 10, 3) := by decide +kernel
theorem dX3_back_32 : decode cX3_back 32 = .ok (.aload_n 0, 1) := by decide +kernel
theorem dX3_back_33 : decode cX3_back 33 = .ok (.bipush (-3), 2) := by decide +kernel
theorem dX3_back_35 : decode cX3_back 35 = .ok (.invokevirtual 39, 3) := by decide +kernel
theorem dX3_back_38 : decode cX3_back 38 = .ok (.ireturn, 1) := by decide +kernel
theorem dX3_back_39 : decode cX3_back 39 = .ok (.aload_n 2, 1) := by decide +kernel
theorem dX3_back_40 : decode cX3_back 40 = .ok (.iconst 2, 1) := by decide +kernel
theorem dX3_back_41 : decode cX3_back 41 = .ok (.putfield 63, 3) := by decide +kernel
theorem dX3_back_44 : decode cX3_back 44 = .ok (.aload_n 2, 1) := by decide +kernel
theorem dX3_back_45 : decode cX3_back 45 = .ok (.iconst 0, 1) := by decide +kernel
theorem dX3_back_46 : decode cX3_back 46 = .ok (.putfield 83, 3) := by decide +kernel
theorem dX3_back_49 : decode cX3_back 49 = .ok (.aload_n 2, 1) := by decide +kernel
theorem dX3_back_50 : decode cX3_back 50 = .ok (.bipush 10, 2) := by decide +kernel
theorem dX3_back_52 : decode cX3_back 52 = .ok (.putfield 86, 3) := by decide +kernel
theorem dX3_back_55 : decode cX3_back 55 = .ok (.iconst 1, 1) := by decide +kernel
theorem dX3_back_56 : decode cX3_back 56 = .ok (.ireturn, 1) := by decide +kernel
set_option maxRecDepth 20000 in
theorem ggX3_off_X3_callAt : GoodIn wsX3_off wsX3_callAt := goodIn_r _ [6, 7, 8, 9, 10, 11, 12, 13, 14, 15, 16, 17, 18, 19, 20, 21, 22, 23, 24, 25, 26, 27, 28, 29, 30, 31, 99, 100, 101, 102, 103, 104, 105, 106, 107, 108, 109, 110, 111, 112, 113, 114] (by decide +kernel) (by decide +kernel)
set_option maxRecDepth 20000 in
theorem gX3_off_X3_callAt : GoodIn wsX3_off (wsV RX3 110 RX3 yX3_callAt wsX3_callAt) := goodIn_app (goodIn_of _ (by decide +kernel)) ggX3_off_X3_callAt
set_option maxRecDepth 20000 in
theorem ggX3_off_X3_refuse : GoodIn wsX3_off wsX3_refuse := goodIn_r _ [35, 36, 99, 100, 101, 102, 103, 104, 105, 106, 107, 108, 109, 110, 111] (by decide +kernel) (by decide +kernel)
set_option maxRecDepth 20000 in
theorem gX3_off_X3_refuse : GoodIn wsX3_off (wsV RX3 39 RX3 yX3_refuse wsX3_refuse) := goodIn_app (goodIn_of _ (by decide +kernel)) ggX3_off_X3_refuse
set_option maxRecDepth 20000 in
theorem ggX3_off_X1_hasEnded : GoodIn wsX3_off wsX1_hasEnded := goodIn_r _ [41, 42, 87, 88, 89, 90, 91, 92, 93, 94, 95, 96, 97, 98] (by decide +kernel) (by decide +kernel)
set_option maxRecDepth 20000 in
theorem gX3_off_X1_hasEnded : GoodIn wsX3_off (wsV RX3 114 RX1 yX1_hasEnded wsX1_hasEnded) := goodIn_app (goodIn_of _ (by decide +kernel)) ggX3_off_X1_hasEnded
set_option maxRecDepth 20000 in
theorem ggX3_off_X3_leaveLine : GoodIn wsX3_off wsX3_leaveLine := goodIn_r _ [46, 47, 8, 48, 9, 10, 11, 12, 13, 14, 15, 16, 17, 18, 19, 20, 21, 22, 23, 24, 25, 26, 27, 28, 29, 30, 31, 49, 50, 51, 52, 53, 54, 55, 56, 57, 58, 59, 60, 61, 62, 99, 100, 101, 102, 103, 104, 105, 106, 107, 108, 109, 110, 111, 87, 88, 89, 90, 91, 92, 93, 94, 95, 96, 97, 98, 112, 113, 114] (by decide +kernel) (by decide +kernel)
set_option maxRecDepth 20000 in
theorem gX3_off_X3_leaveLine : GoodIn wsX3_off (wsV RX3 121 RX3 yX3_leaveLine wsX3_leaveLine) := goodIn_app (goodIn_of _ (by decide +kernel)) ggX3_off_X3_leaveLine
set_option maxRecDepth 20000 in
theorem ggX3_off_X1_callOffAll : GoodIn wsX3_off wsX1_callOffAll := goodIn_r _ [66, 67, 68, 69, 70, 71, 40, 72, 73, 74, 87, 88, 89, 90, 91, 92, 93, 94, 95, 96, 97, 98, 115, 116, 117, 118, 119, 120, 121, 122, 123, 124, 125, 126, 127, 128, 129, 130, 131, 132, 133, 134, 135] (by decide +kernel) (by decide +kernel)
set_option maxRecDepth 20000 in
theorem gX3_off_X1_callOffAll : GoodIn wsX3_off (wsV RX3 124 RX1 yX1_callOffAll wsX1_callOffAll) := goodIn_app (goodIn_of _ (by decide +kernel)) ggX3_off_X1_callOffAll
set_option maxRecDepth 20000 in
theorem ggX3_off_X3_end : GoodIn wsX3_off wsX3_end := goodIn_r _ [78, 1, 79, 80, 81, 87, 88, 89, 90, 91, 92, 93, 94, 95, 96, 97, 98, 99, 100, 101, 102, 103, 104, 105, 106, 107, 108, 109, 110, 111] (by decide +kernel) (by decide +kernel)
set_option maxRecDepth 20000 in
theorem gX3_off_X3_end : GoodIn wsX3_off (wsV RX3 127 RX3 yX3_end wsX3_end) := goodIn_app (goodIn_of _ (by decide +kernel)) ggX3_off_X3_end
set_option maxRecDepth 20000 in
theorem ggX3_off_X3_dropEnded : GoodIn wsX3_off wsX3_dropEnded := goodIn_r _ [85, 86, 8, 9, 10, 11, 12, 13, 14, 15, 16, 17, 18, 19, 20, 21, 22, 23, 24, 25, 26, 27, 28, 29, 30, 31, 37, 38, 39, 40, 41, 42, 49, 50, 51, 52, 53, 54, 55, 56, 57, 58, 59, 60, 61, 62, 99, 100, 101, 102, 103, 104, 105, 106, 107, 108, 109, 110, 111, 112, 113, 114, 87, 88, 89, 90, 91, 92, 93, 94, 95, 96, 97, 98] (by decide +kernel) (by decide +kernel)
set_option maxRecDepth 20000 in
theorem gX3_off_X3_dropEnded : GoodIn wsX3_off (wsV RX3 131 RX3 yX3_dropEnded wsX3_dropEnded) := goodIn_app (goodIn_of _ (by decide +kernel)) ggX3_off_X3_dropEnded
theorem dX3_off_0 : decode cX3_off 0 = .ok (.aload_n 0, 1) := by decide +kernel
theorem dX3_off_1 : decode cX3_off 1 = .ok (.iload_n 1, 1) := by decide +kernel
theorem dX3_off_2 : decode cX3_off 2 = .ok (.invokevirtual 110, 3) := by decide +kernel
theorem dX3_off_5 : decode cX3_off 5 = .ok (.astore_n 2, 1) := by decide +kernel
theorem dX3_off_6 : decode cX3_off 6 = .ok (.aload_n 2, 1) := by decide +kernel
theorem dX3_off_7 : decode cX3_off 7 = .ok (.ifnonnull 9, 3) := by decide +kernel
theorem dX3_off_10 : decode cX3_off 10 = .ok (.aload_n 0, 1) := by decide +kernel
theorem dX3_off_11 : decode cX3_off 11 = .ok (.iconst (-1), 1) := by decide +kernel
theorem dX3_off_12 : decode cX3_off 12 = .ok (.invokevirtual 39, 3) := by decide +kernel
theorem dX3_off_15 : decode cX3_off 15 = .ok (.ireturn, 1) := by decide +kernel
theorem dX3_off_16 : decode cX3_off 16 = .ok (.aload_n 2, 1) := by decide +kernel
theorem dX3_off_17 : decode cX3_off 17 = .ok (.invokevirtual 114, 3) := by decide +kernel
theorem dX3_off_20 : decode cX3_off 20 = .ok (.ifCond .eq 10, 3) := by decide +kernel
theorem dX3_off_23 : decode cX3_off 23 = .ok (.aload_n 0, 1) := by decide +kernel
theorem dX3_off_24 : decode cX3_off 24 = .ok (.bipush (-3), 2) := by decide +kernel
theorem dX3_off_26 : decode cX3_off 26 = .ok (.invokevirtual 39, 3) := by decide +kernel
theorem dX3_off_29 : decode cX3_off 29 = .ok (.ireturn, 1) := by decide +kernel
theorem dX3_off_30 : decode cX3_off 30 = .ok (.aload_n 2, 1) := by decide +kernel
theorem dX3_off_31 : decode cX3_off 31 = .ok (.getfield 118, 3) := by decide +kernel
theorem dX3_off_34 : decode cX3_off 34 = .ok (.ifCond .ne 8, 3) := by decide +kernel
theorem dX3_off_37 : decode cX3_off 37 = .ok (.aload_n 0, 1) := by decide +kernel
theorem dX3_off_38 : decode cX3_off 38 = .ok (.aload_n 2, 1) := by decide +kernel
theorem dX3_off_39 : decode cX3_off 39 = .ok (.invokevirtual 121, 3) := by decide +kernel
theorem dX3_off_42 : decode cX3_off 42 = .ok (.aload_n 2, 1) := by decide +kernel
theorem dX3_off_43 : decode cX3_off 43 = .ok (.invokevirtual 124, 3) := by decide +kernel
theorem dX3_off_46 : decode cX3_off 46 = .ok (.aload_n 0, 1) := by decide +kernel
theorem dX3_off_47 : decode cX3_off 47 = .ok (.aload_n 2, 1) := by decide +kernel
theorem dX3_off_48 : decode cX3_off 48 = .ok (.iconst 4, 1) := by decide +kernel
theorem dX3_off_49 : decode cX3_off 49 = .ok (.invokevirtual 127, 3) := by decide +kernel
theorem dX3_off_52 : decode cX3_off 52 = .ok (.aload_n 0, 1) := by decide +kernel
theorem dX3_off_53 : decode cX3_off 53 = .ok (.invokevirtual 131, 3) := by decide +kernel
theorem dX3_off_56 : decode cX3_off 56 = .ok (.iconst 1, 1) := by decide +kernel
theorem dX3_off_57 : decode cX3_off 57 = .ok (.ireturn, 1) := by decide +kernel
set_option maxRecDepth 20000 in
theorem ggX3_callOf_X3_callAt : GoodIn wsX3_callOf wsX3_callAt := goodIn_r _ [5, 6, 7, 8, 9, 10, 11, 12, 13, 14, 15, 16, 17, 18, 19, 20, 21, 22, 23, 24, 25, 26, 27, 28, 29, 30, 54, 55, 56, 57, 58, 59, 60, 61, 62, 63, 64, 65, 66, 67, 68, 69] (by decide +kernel) (by decide +kernel)
set_option maxRecDepth 20000 in
theorem gX3_callOf_X3_callAt : GoodIn wsX3_callOf (wsV RX3 110 RX3 yX3_callAt wsX3_callAt) := goodIn_app (goodIn_of _ (by decide +kernel)) ggX3_callOf_X3_callAt
set_option maxRecDepth 20000 in
theorem ggX3_callOf_X3_refuse : GoodIn wsX3_callOf wsX3_refuse := goodIn_r _ [34, 35, 54, 55, 56, 57, 58, 59, 60, 61, 62, 63, 64, 65, 66] (by decide +kernel) (by decide +kernel)
set_option maxRecDepth 20000 in
theorem gX3_callOf_X3_refuse : GoodIn wsX3_callOf (wsV RX3 39 RX3 yX3_refuse wsX3_refuse) := goodIn_app (goodIn_of _ (by decide +kernel)) ggX3_callOf_X3_refuse
set_option maxRecDepth 20000 in
theorem ggX3_callOf_X1_tell : GoodIn wsX3_callOf wsX1_tell := goodIn_r _ [40, 41, 42, 43, 44, 45, 46, 47, 48, 49, 50, 51, 52, 53, 70, 71, 72, 73, 74, 75, 76, 77, 78, 79, 80, 81, 82, 83, 84, 85, 86, 87, 88, 89, 90, 91, 92, 93, 94, 95, 96, 97, 98, 99, 100, 101, 102] (by decide +kernel) (by decide +kernel)
set_option maxRecDepth 20000 in
theorem gX3_callOf_X1_tell : GoodIn wsX3_callOf (wsV RX3 144 RX1 yX1_tell wsX1_tell) := goodIn_app (goodIn_of _ (by decide +kernel)) ggX3_callOf_X1_tell
theorem dX3_callOf_0 : decode cX3_callOf 0 = .ok (.aload_n 0, 1) := by decide +kernel
theorem dX3_callOf_1 : decode cX3_callOf 1 = .ok (.iload_n 1, 1) := by decide +kernel
theorem dX3_callOf_2 : decode cX3_callOf 2 = .ok (.invokevirtual 110, 3) := by decide +kernel
theorem dX3_callOf_5 : decode cX3_callOf 5 = .ok (.astore_n 3, 1) := by decide +kernel
theorem dX3_callOf_6 : decode cX3_callOf 6 = .ok (.aload_n 3, 1) := by decide +kernel
theorem dX3_callOf_7 : decode cX3_callOf 7 = .ok (.ifnonnull 9, 3) := by decide +kernel
theorem dX3_callOf_10 : decode cX3_callOf 10 = .ok (.aload_n 0, 1) := by decide +kernel
theorem dX3_callOf_11 : decode cX3_callOf 11 = .ok (.iconst (-1), 1) := by decide +kernel
theorem dX3_callOf_12 : decode cX3_callOf 12 = .ok (.invokevirtual 39, 3) := by decide +kernel
theorem dX3_callOf_15 : decode cX3_callOf 15 = .ok (.ireturn, 1) := by decide +kernel
theorem dX3_callOf_16 : decode cX3_callOf 16 = .ok (.iload_n 2, 1) := by decide +kernel
theorem dX3_callOf_17 : decode cX3_callOf 17 = .ok (.ifCond .lt 9, 3) := by decide +kernel
theorem dX3_callOf_20 : decode cX3_callOf 20 = .ok (.iload_n 2, 1) := by decide +kernel
theorem dX3_callOf_21 : decode cX3_callOf 21 = .ok (.bipush 10, 2) := by decide +kernel
theorem dX3_callOf_23 : decode cX3_callOf 23 = .ok (.if_icmp .le 12, 3) := by decide +kernel
theorem dX3_callOf_26 : decode cX3_callOf 26 = .ok (.aload_n 0, 1) := by decide +kernel
theorem dX3_callOf_27 : decode cX3_callOf 27 = .ok (.bipush (-2), 2) := by decide +kernel
theorem dX3_callOf_29 : decode cX3_callOf 29 = .ok (.invokevirtual 39, 3) := by decide +kernel
theorem dX3_callOf_32 : decode cX3_callOf 32 = .ok (.goto 8, 3) := by decide +kernel
theorem dX3_callOf_35 : decode cX3_callOf 35 = .ok (.aload_n 3, 1) := by decide +kernel
theorem dX3_callOf_36 : decode cX3_callOf 36 = .ok (.iload_n 2, 1) := by decide +kernel
theorem dX3_callOf_37 : decode cX3_callOf 37 = .ok (.invokevirtual 144, 3) := by decide +kernel
theorem dX3_callOf_40 : decode cX3_callOf 40 = .ok (.ireturn, 1) := by decide +kernel
set_option maxRecDepth 20000 in
theorem ggX3_serverOf_X3_serverAt : GoodIn wsX3_serverOf wsX3_serverAt := goodIn_r _ [5, 6, 7, 8, 9, 10, 11, 12, 13, 14, 15, 16, 17, 18, 19, 20, 21, 22, 23, 24, 25, 26, 27, 28, 29, 30, 58, 59, 60, 61, 62, 63, 64, 65, 66, 67, 68, 69, 70, 71, 72, 73] (by decide +kernel) (by decide +kernel)
set_option maxRecDepth 20000 in
theorem gX3_serverOf_X3_serverAt : GoodIn wsX3_serverOf (wsV RX3 59 RX3 yX3_serverAt wsX3_serverAt) := goodIn_app (goodIn_of _ (by decide +kernel)) ggX3_serverOf_X3_serverAt
set_option maxRecDepth 20000 in
theorem ggX3_serverOf_X3_refuse : GoodIn wsX3_serverOf wsX3_refuse := goodIn_r _ [34, 35, 58, 59, 60, 61, 62, 63, 64, 65, 66, 67, 68, 69, 70] (by decide +kernel) (by decide +kernel)
set_option maxRecDepth 20000 in
theorem gX3_serverOf_X3_refuse : GoodIn wsX3_serverOf (wsV RX3 39 RX3 yX3_refuse wsX3_refuse) := goodIn_app (goodIn_of _ (by decide +kernel)) ggX3_serverOf_X3_refuse
set_option maxRecDepth 20000 in
theorem ggX3_serverOf_X2_tell : GoodIn wsX3_serverOf wsX2_tell := goodIn_r _ [40, 41, 42, 43, 44, 45, 46, 47, 48, 49, 50, 51, 52, 53, 54, 55, 56, 57, 74, 75, 76, 77, 78, 79, 80, 81, 82, 83, 84, 85, 86, 87, 88, 89, 90] (by decide +kernel) (by decide +kernel)
set_option maxRecDepth 20000 in
theorem gX3_serverOf_X2_tell : GoodIn wsX3_serverOf (wsV RX3 147 RX2 yX2_tell wsX2_tell) := goodIn_app (goodIn_of _ (by decide +kernel)) ggX3_serverOf_X2_tell
theorem dX3_serverOf_0 : decode cX3_serverOf 0 = .ok (.aload_n 0, 1) := by decide +kernel
theorem dX3_serverOf_1 : decode cX3_serverOf 1 = .ok (.iload_n 1, 1) := by decide +kernel
theorem dX3_serverOf_2 : decode cX3_serverOf 2 = .ok (.invokevirtual 59, 3) := by decide +kernel
theorem dX3_serverOf_5 : decode cX3_serverOf 5 = .ok (.astore_n 3, 1) := by decide +kernel
theorem dX3_serverOf_6 : decode cX3_serverOf 6 = .ok (.aload_n 3, 1) := by decide +kernel
theorem dX3_serverOf_7 : decode cX3_serverOf 7 = .ok (.ifnonnull 9, 3) := by decide +kernel
theorem dX3_serverOf_10 : decode cX3_serverOf 10 = .ok (.aload_n 0, 1) := by decide +kernel
theorem dX3_serverOf_11 : decode cX3_serverOf 11 = .ok (.iconst (-1), 1) := by decide +kernel
theorem dX3_serverOf_12 : decode cX3_serverOf 12 = .ok (.invokevirtual 39, 3) := by decide +kernel
theorem dX3_serverOf_15 : decode cX3_serverOf 15 = .ok (.ireturn, 1) := by decide +kernel
theorem dX3_serverOf_16 : decode cX3_serverOf 16 = .ok (.iload_n 2, 1) := by decide +kernel
theorem dX3_serverOf_17 : decode cX3_serverOf 17 = .ok (.ifCond .lt 9, 3) := by decide +kernel
theorem dX3_serverOf_20 : decode cX3_serverOf 20 = .ok (.iload_n 2, 1) := by decide +kernel
theorem dX3_serverOf_21 : decode cX3_serverOf 21 = .ok (.bipush 15, 2) := by decide +kernel
theorem dX3_serverOf_23 : decode cX3_serverOf 23 = .ok (.if_icmp .le 12, 3) := by decide +kernel
theorem dX3_serverOf_26 : decode cX3_serverOf 26 = .ok (.aload_n 0, 1) := by decide +kernel
theorem dX3_serverOf_27 : decode cX3_serverOf 27 = .ok (.bipush (-2), 2) := by decide +kernel
theorem dX3_serverOf_29 : decode cX3_serverOf 29 = .ok (.invokevirtual 39, 3) := by decide +kernel
theorem dX3_serverOf_32 : decode cX3_serverOf 32 = .ok (.goto 8, 3) := by decide +kernel
theorem dX3_serverOf_35 : decode cX3_serverOf 35 = .ok (.aload_n 3, 1) := by decide +kernel
theorem dX3_serverOf_36 : decode cX3_serverOf 36 = .ok (.iload_n 2, 1) := by decide +kernel
theorem dX3_serverOf_37 : decode cX3_serverOf 37 = .ok (.invokevirtual 147, 3) := by decide +kernel
theorem dX3_serverOf_40 : decode cX3_serverOf 40 = .ok (.ireturn, 1) := by decide +kernel
set_option maxRecDepth 20000 in
theorem ggX3_mark_X3_serverAt : GoodIn wsX3_mark wsX3_serverAt := goodIn_r _ [5, 6, 7, 8, 9, 10, 11, 12, 13, 14, 15, 16, 17, 18, 19, 20, 21, 22, 23, 24, 25, 26, 27, 28, 29, 30, 44, 45, 46, 47, 48, 49, 50, 51, 52, 53, 54, 55, 56, 57, 58, 59] (by decide +kernel) (by decide +kernel)
set_option maxRecDepth 20000 in
theorem gX3_mark_X3_serverAt : GoodIn wsX3_mark (wsV RX3 59 RX3 yX3_serverAt wsX3_serverAt) := goodIn_app (goodIn_of _ (by decide +kernel)) ggX3_mark_X3_serverAt
set_option maxRecDepth 20000 in
theorem ggX3_mark_X3_refuse : GoodIn wsX3_mark wsX3_refuse := goodIn_r _ [34, 35, 44, 45, 46, 47, 48, 49, 50, 51, 52, 53, 54, 55, 56] (by decide +kernel) (by decide +kernel)
set_option maxRecDepth 20000 in
theorem gX3_mark_X3_refuse : GoodIn wsX3_mark (wsV RX3 39 RX3 yX3_refuse wsX3_refuse) := goodIn_app (goodIn_of _ (by decide +kernel)) ggX3_mark_X3_refuse
set_option maxRecDepth 20000 in
theorem ggX3_mark_X2_placeOfMark : GoodIn wsX3_mark wsX2_placeOfMark := goodIn_r _ [40, 41, 42, 43, 60, 61, 62, 63, 64, 65, 66, 67, 68, 69, 70, 71, 72, 73, 74, 75, 76] (by decide +kernel) (by decide +kernel)
set_option maxRecDepth 20000 in
theorem gX3_mark_X2_placeOfMark : GoodIn wsX3_mark (wsV RX3 148 RX2 yX2_placeOfMark wsX2_placeOfMark) := goodIn_app (goodIn_of _ (by decide +kernel)) ggX3_mark_X2_placeOfMark
theorem dX3_mark_0 : decode cX3_mark 0 = .ok (.aload_n 0, 1) := by decide +kernel
theorem dX3_mark_1 : decode cX3_mark 1 = .ok (.iload_n 1, 1) := by decide +kernel
theorem dX3_mark_2 : decode cX3_mark 2 = .ok (.invokevirtual 59, 3) := by decide +kernel
theorem dX3_mark_5 : decode cX3_mark 5 = .ok (.astore_n 3, 1) := by decide +kernel
theorem dX3_mark_6 : decode cX3_mark 6 = .ok (.aload_n 3, 1) := by decide +kernel
theorem dX3_mark_7 : decode cX3_mark 7 = .ok (.ifnonnull 9, 3) := by decide +kernel
theorem dX3_mark_10 : decode cX3_mark 10 = .ok (.aload_n 0, 1) := by decide +kernel
theorem dX3_mark_11 : decode cX3_mark 11 = .ok (.iconst (-1), 1) := by decide +kernel
theorem dX3_mark_12 : decode cX3_mark 12 = .ok (.invokevirtual 39, 3) := by decide +kernel
theorem dX3_mark_15 : decode cX3_mark 15 = .ok (.ireturn, 1) := by decide +kernel
theorem dX3_mark_16 : decode cX3_mark 16 = .ok (.iload_n 2, 1) := by decide +kernel
theorem dX3_mark_17 : decode cX3_mark 17 = .ok (.ifCond .lt 8, 3) := by decide +kernel
theorem dX3_mark_20 : decode cX3_mark 20 = .ok (.iload_n 2, 1) := by decide +kernel
theorem dX3_mark_21 : decode cX3_mark 21 = .ok (.iconst 4, 1) := by decide +kernel
theorem dX3_mark_22 : decode cX3_mark 22 = .ok (.if_icmp .lt 12, 3) := by decide +kernel
theorem dX3_mark_25 : decode cX3_mark 25 = .ok (.aload_n 0, 1) := by decide +kernel
theorem dX3_mark_26 : decode cX3_mark 26 = .ok (.bipush (-2), 2) := by decide +kernel
theorem dX3_mark_28 : decode cX3_mark 28 = .ok (.invokevirtual 39, 3) := by decide +kernel
theorem dX3_mark_31 : decode cX3_mark 31 = .ok (.goto 8, 3) := by decide +kernel
theorem dX3_mark_34 : decode cX3_mark 34 = .ok (.aload_n 3, 1) := by decide +kernel
theorem dX3_mark_35 : decode cX3_mark 35 = .ok (.iload_n 2, 1) := by decide +kernel
theorem dX3_mark_36 : decode cX3_mark 36 = .ok (.invokevirtual 148, 3) := by decide +kernel
theorem dX3_mark_39 : decode cX3_mark 39 = .ok (.ireturn, 1) := by decide +kernel
set_option maxRecDepth 20000 in
theorem ggX3_share_X3_serverAt : GoodIn wsX3_share wsX3_serverAt := goodIn_r _ [6, 7, 8, 9, 10, 11, 12, 13, 14, 15, 16, 17, 18, 19, 20, 21, 22, 23, 24, 25, 26, 27, 28, 29, 30, 31, 58, 59, 60, 61, 62, 63, 64, 65, 66, 67, 68, 69, 70, 71, 72, 73] (by decide +kernel) (by decide +kernel)
set_option maxRecDepth 20000 in
theorem gX3_share_X3_serverAt : GoodIn wsX3_share (wsV RX3 59 RX3 yX3_serverAt wsX3_serverAt) := goodIn_app (goodIn_of _ (by decide +kernel)) ggX3_share_X3_serverAt
set_option maxRecDepth 20000 in
theorem ggX3_share_X3_refuse : GoodIn wsX3_share wsX3_refuse := goodIn_r _ [35, 36, 58, 59, 60, 61, 62, 63, 64, 65, 66, 67, 68, 69, 70] (by decide +kernel) (by decide +kernel)
set_option maxRecDepth 20000 in
theorem gX3_share_X3_refuse : GoodIn wsX3_share (wsV RX3 39 RX3 yX3_refuse wsX3_refuse) := goodIn_app (goodIn_of _ (by decide +kernel)) ggX3_share_X3_refuse
set_option maxRecDepth 20000 in
theorem ggX3_share_X3_askingsSoFar : GoodIn wsX3_share wsX3_askingsSoFar := goodIn_r _ [40, 7, 8, 1, 9, 10, 11, 12, 13, 14, 15, 16, 17, 18, 19, 20, 21, 22, 23, 24, 25, 26, 27, 28, 29, 30, 31, 58, 59, 60, 61, 62, 63, 64, 65, 66, 67, 68, 69, 70, 41, 42, 43, 44, 45, 46, 47, 48, 49, 50, 51, 52, 53, 54, 55, 56, 57, 71, 72, 73] (by decide +kernel) (by decide +kernel)
set_option maxRecDepth 20000 in
theorem gX3_share_X3_askingsSoFar : GoodIn wsX3_share (wsV RX3 155 RX3 yX3_askingsSoFar wsX3_askingsSoFar) := goodIn_app (goodIn_of _ (by decide +kernel)) ggX3_share_X3_askingsSoFar
theorem dX3_share_0 : decode cX3_share 0 = .ok (.aload_n 0, 1) := by decide +kernel
theorem dX3_share_1 : decode cX3_share 1 = .ok (.iload_n 1, 1) := by decide +kernel
theorem dX3_share_2 : decode cX3_share 2 = .ok (.invokevirtual 59, 3) := by decide +kernel
theorem dX3_share_5 : decode cX3_share 5 = .ok (.astore_n 2, 1) := by decide +kernel
theorem dX3_share_6 : decode cX3_share 6 = .ok (.aload_n 2, 1) := by decide +kernel
theorem dX3_share_7 : decode cX3_share 7 = .ok (.ifnonnull 9, 3) := by decide +kernel
theorem dX3_share_10 : decode cX3_share 10 = .ok (.aload_n 0, 1) := by decide +kernel
theorem dX3_share_11 : decode cX3_share 11 = .ok (.iconst (-1), 1) := by decide +kernel
theorem dX3_share_12 : decode cX3_share 12 = .ok (.invokevirtual 39, 3) := by decide +kernel
theorem dX3_share_15 : decode cX3_share 15 = .ok (.ireturn, 1) := by decide +kernel
theorem dX3_share_16 : decode cX3_share 16 = .ok (.aload_n 0, 1) := by decide +kernel
theorem dX3_share_17 : decode cX3_share 17 = .ok (.invokevirtual 155, 3) := by decide +kernel
theorem dX3_share_20 : decode cX3_share 20 = .ok (.istore_n 3, 1) := by decide +kernel
theorem dX3_share_21 : decode cX3_share 21 = .ok (.iload_n 3, 1) := by decide +kernel
theorem dX3_share_22 : decode cX3_share 22 = .ok (.ifCond .ne 7, 3) := by decide +kernel
theorem dX3_share_25 : decode cX3_share 25 = .ok (.iconst 0, 1) := by decide +kernel
theorem dX3_share_26 : decode cX3_share 26 = .ok (.goto 13, 3) := by decide +kernel
theorem dX3_share_29 : decode cX3_share 29 = .ok (.aload_n 2, 1) := by decide +kernel
theorem dX3_share_30 : decode cX3_share 30 = .ok (.getfield 158, 3) := by decide +kernel
theorem dX3_share_33 : decode cX3_share 33 = .ok (.sipush 1000, 3) := by decide +kernel
theorem dX3_share_36 : decode cX3_share 36 = .ok (.imul, 1) := by decide +kernel
theorem dX3_share_37 : decode cX3_share 37 = .ok (.iload_n 3, 1) := by decide +kernel
theorem dX3_share_38 : decode cX3_share 38 = .ok (.idiv, 1) := by decide +kernel
theorem dX3_share_39 : decode cX3_share 39 = .ok (.ireturn, 1) := by decide +kernel
set_option maxRecDepth 20000 in
theorem ggX3_rule_X3_refuse : GoodIn wsX3_rule wsX3_refuse := goodIn_r _ [6, 7, 8, 9, 10, 11, 12, 13, 14, 15, 16, 17, 18, 19, 20] (by decide +kernel) (by decide +kernel)
set_option maxRecDepth 20000 in
theorem gX3_rule_X3_refuse : GoodIn wsX3_rule (wsV RX3 39 RX3 yX3_refuse wsX3_refuse) := goodIn_app (goodIn_of _ (by decide +kernel)) ggX3_rule_X3_refuse
theorem dX3_rule_0 : decode cX3_rule 0 = .ok (.iload_n 1, 1) := by decide +kernel
theorem dX3_rule_1 : decode cX3_rule 1 = .ok (.ifCond .lt 8, 3) := by decide +kernel
theorem dX3_rule_4 : decode cX3_rule 4 = .ok (.iload_n 1, 1) := by decide +kernel
theorem dX3_rule_5 : decode cX3_rule 5 = .ok (.iconst 3, 1) := by decide +kernel
theorem dX3_rule_6 : decode cX3_rule 6 = .ok (.if_icmp .le 9, 3) := by decide +kernel
theorem dX3_rule_9 : decode cX3_rule 9 = .ok (.aload_n 0, 1) := by decide +kernel
theorem dX3_rule_10 : decode cX3_rule 10 = .ok (.iconst (-1), 1) := by decide +kernel
theorem dX3_rule_11 : decode cX3_rule 11 = .ok (.invokevirtual 39, 3) := by decide +kernel
theorem dX3_rule_14 : decode cX3_rule 14 = .ok (.ireturn, 1) := by decide +kernel
theorem dX3_rule_15 : decode cX3_rule 15 = .ok (.aload_n 0, 1) := by decide +kernel
theorem dX3_rule_16 : decode cX3_rule 16 = .ok (.getfield 29, 3) := by decide +kernel
theorem dX3_rule_19 : decode cX3_rule 19 = .ok (.istore_n 2, 1) := by decide +kernel
theorem dX3_rule_20 : decode cX3_rule 20 = .ok (.aload_n 0, 1) := by decide +kernel
theorem dX3_rule_21 : decode cX3_rule 21 = .ok (.iload_n 1, 1) := by decide +kernel
theorem dX3_rule_22 : decode cX3_rule 22 = .ok (.putfield 29, 3) := by decide +kernel
theorem dX3_rule_25 : decode cX3_rule 25 = .ok (.iload_n 2, 1) := by decide +kernel
theorem dX3_rule_26 : decode cX3_rule 26 = .ok (.ireturn, 1) := by decide +kernel
set_option maxRecDepth 20000 in
theorem ggX3_limit_X3_faultOf : GoodIn wsX3_limit wsX3_faultOf := goodIn_r _ [5] (by decide +kernel) (by decide +kernel)
set_option maxRecDepth 20000 in
theorem gX3_limit_X3_faultOf : GoodIn wsX3_limit (va_wsS RX3 72 yX3_faultOf wsX3_faultOf) := goodIn_app (goodIn_of _ (by decide +kernel)) ggX3_limit_X3_faultOf
set_option maxRecDepth 20000 in
theorem ggX3_limit_X3_refuse : GoodIn wsX3_limit wsX3_refuse := goodIn_r _ [9, 10, 11, 12, 13, 14, 15, 16, 17, 18, 19, 20, 21, 22, 23] (by decide +kernel) (by decide +kernel)
set_option maxRecDepth 20000 in
theorem gX3_limit_X3_refuse : GoodIn wsX3_limit (wsV RX3 39 RX3 yX3_refuse wsX3_refuse) := goodIn_app (goodIn_of _ (by decide +kernel)) ggX3_limit_X3_refuse
theorem dX3_limit_0 : decode cX3_limit 0 = .ok (.iload_n 1, 1) := by decide +kernel
theorem dX3_limit_1 : decode cX3_limit 1 = .ok (.iconst 1, 1) := by decide +kernel
theorem dX3_limit_2 : decode cX3_limit 2 = .ok (.bipush 10, 2) := by decide +kernel
theorem dX3_limit_4 : decode cX3_limit 4 = .ok (.invokestatic 72, 3) := by decide +kernel
theorem dX3_limit_7 : decode cX3_limit 7 = .ok (.istore_n 2, 1) := by decide +kernel
theorem dX3_limit_8 : decode cX3_limit 8 = .ok (.iload_n 2, 1) := by decide +kernel
theorem dX3_limit_9 : decode cX3_limit 9 = .ok (.ifCond .eq 9, 3) := by decide +kernel
theorem dX3_limit_12 : decode cX3_limit 12 = .ok (.aload_n 0, 1) := by decide +kernel
theorem dX3_limit_13 : decode cX3_limit 13 = .ok (.iload_n 2, 1) := by decide +kernel
theorem dX3_limit_14 : decode cX3_limit 14 = .ok (.invokevirtual 39, 3) := by decide +kernel
theorem dX3_limit_17 : decode cX3_limit 17 = .ok (.ireturn, 1) := by decide +kernel
theorem dX3_limit_18 : decode cX3_limit 18 = .ok (.aload_n 0, 1) := by decide +kernel
theorem dX3_limit_19 : decode cX3_limit 19 = .ok (.getfield 33, 3) := by decide +kernel
theorem dX3_limit_22 : decode cX3_limit 22 = .ok (.istore_n 3, 1) := by decide +kernel
theorem dX3_limit_23 : decode cX3_limit 23 = .ok (.aload_n 0, 1) := by decide +kernel
theorem dX3_limit_24 : decode cX3_limit 24 = .ok (.iload_n 1, 1) := by decide +kernel
theorem dX3_limit_25 : decode cX3_limit 25 = .ok (.putfield 33, 3) := by decide +kernel
theorem dX3_limit_28 : decode cX3_limit 28 = .ok (.iload_n 3, 1) := by decide +kernel
theorem dX3_limit_29 : decode cX3_limit 29 = .ok (.ireturn, 1) := by decide +kernel
set_option maxRecDepth 20000 in
theorem ggX3_budget_X3_faultOf : GoodIn wsX3_budget wsX3_faultOf := goodIn_r _ [5] (by decide +kernel) (by decide +kernel)
set_option maxRecDepth 20000 in
theorem gX3_budget_X3_faultOf : GoodIn wsX3_budget (va_wsS RX3 72 yX3_faultOf wsX3_faultOf) := goodIn_app (goodIn_of _ (by decide +kernel)) ggX3_budget_X3_faultOf
set_option maxRecDepth 20000 in
theorem ggX3_budget_X3_refuse : GoodIn wsX3_budget wsX3_refuse := goodIn_r _ [9, 10, 11, 12, 13, 14, 15, 16, 17, 18, 19, 20, 21, 22, 23] (by decide +kernel) (by decide +kernel)
set_option maxRecDepth 20000 in
theorem gX3_budget_X3_refuse : GoodIn wsX3_budget (wsV RX3 39 RX3 yX3_refuse wsX3_refuse) := goodIn_app (goodIn_of _ (by decide +kernel)) ggX3_budget_X3_refuse
theorem dX3_budget_0 : decode cX3_budget 0 = .ok (.iload_n 1, 1) := by decide +kernel
theorem dX3_budget_1 : decode cX3_budget 1 = .ok (.iconst 0, 1) := by decide +kernel
theorem dX3_budget_2 : decode cX3_budget 2 = .ok (.bipush 100, 2) := by decide +kernel
theorem dX3_budget_4 : decode cX3_budget 4 = .ok (.invokestatic 72, 3) := by decide +kernel
theorem dX3_budget_7 : decode cX3_budget 7 = .ok (.istore_n 2, 1) := by decide +kernel
theorem dX3_budget_8 : decode cX3_budget 8 = .ok (.iload_n 2, 1) := by decide +kernel
theorem dX3_budget_9 : decode cX3_budget 9 = .ok (.ifCond .eq 9, 3) := by decide +kernel
theorem dX3_budget_12 : decode cX3_budget 12 = .ok (.aload_n 0, 1) := by decide +kernel
theorem dX3_budget_13 : decode cX3_budget 13 = .ok (.iload_n 2, 1) := by decide +kernel
theorem dX3_budget_14 : decode cX3_budget 14 = .ok (.invokevirtual 39, 3) := by decide +kernel
theorem dX3_budget_17 : decode cX3_budget 17 = .ok (.ireturn, 1) := by decide +kernel
theorem dX3_budget_18 : decode cX3_budget 18 = .ok (.aload_n 0, 1) := by decide +kernel
theorem dX3_budget_19 : decode cX3_budget 19 = .ok (.getfield 36, 3) := by decide +kernel
theorem dX3_budget_22 : decode cX3_budget 22 = .ok (.istore_n 3, 1) := by decide +kernel
theorem dX3_budget_23 : decode cX3_budget 23 = .ok (.aload_n 0, 1) := by decide +kernel
theorem dX3_budget_24 : decode cX3_budget 24 = .ok (.iload_n 1, 1) := by decide +kernel
theorem dX3_budget_25 : decode cX3_budget 25 = .ok (.putfield 36, 3) := by decide +kernel
theorem dX3_budget_28 : decode cX3_budget 28 = .ok (.iload_n 3, 1) := by decide +kernel
theorem dX3_budget_29 : decode cX3_budget 29 = .ok (.ireturn, 1) := by decide +kernel
set_option maxRecDepth 20000 in
theorem ggX3_hedge_X3_faultOf : GoodIn wsX3_hedge wsX3_faultOf := goodIn_r _ [5] (by decide +kernel) (by decide +kernel)
set_option maxRecDepth 20000 in
theorem gX3_hedge_X3_faultOf : GoodIn wsX3_hedge (va_wsS RX3 72 yX3_faultOf wsX3_faultOf) := goodIn_app (goodIn_of _ (by decide +kernel)) ggX3_hedge_X3_faultOf
set_option maxRecDepth 20000 in
theorem ggX3_hedge_X3_refuse : GoodIn wsX3_hedge wsX3_refuse := goodIn_r _ [9, 10, 11, 12, 13, 14, 15, 16, 17, 18, 19, 20, 21, 22, 23] (by decide +kernel) (by decide +kernel)
set_option maxRecDepth 20000 in
theorem gX3_hedge_X3_refuse : GoodIn wsX3_hedge (wsV RX3 39 RX3 yX3_refuse wsX3_refuse) := goodIn_app (goodIn_of _ (by decide +kernel)) ggX3_hedge_X3_refuse
theorem dX3_hedge_0 : decode cX3_hedge 0 = .ok (.iload_n 1, 1) := by decide +kernel
theorem dX3_hedge_1 : decode cX3_hedge 1 = .ok (.iconst 0, 1) := by decide +kernel
theorem dX3_hedge_2 : decode cX3_hedge 2 = .ok (.sipush 500, 3) := by decide +kernel
theorem dX3_hedge_5 : decode cX3_hedge 5 = .ok (.invokestatic 72, 3) := by decide +kernel
theorem dX3_hedge_8 : decode cX3_hedge 8 = .ok (.istore_n 2, 1) := by decide +kernel
theorem dX3_hedge_9 : decode cX3_hedge 9 = .ok (.iload_n 2, 1) := by decide +kernel
theorem dX3_hedge_10 : decode cX3_hedge 10 = .ok (.ifCond .eq 9, 3) := by decide +kernel
theorem dX3_hedge_13 : decode cX3_hedge 13 = .ok (.aload_n 0, 1) := by decide +kernel
theorem dX3_hedge_14 : decode cX3_hedge 14 = .ok (.iload_n 2, 1) := by decide +kernel
theorem dX3_hedge_15 : decode cX3_hedge 15 = .ok (.invokevirtual 39, 3) := by decide +kernel
theorem dX3_hedge_18 : decode cX3_hedge 18 = .ok (.ireturn, 1) := by decide +kernel
theorem dX3_hedge_19 : decode cX3_hedge 19 = .ok (.aload_n 0, 1) := by decide +kernel
theorem dX3_hedge_20 : decode cX3_hedge 20 = .ok (.getfield 89, 3) := by decide +kernel
theorem dX3_hedge_23 : decode cX3_hedge 23 = .ok (.istore_n 3, 1) := by decide +kernel
theorem dX3_hedge_24 : decode cX3_hedge 24 = .ok (.aload_n 0, 1) := by decide +kernel
theorem dX3_hedge_25 : decode cX3_hedge 25 = .ok (.iload_n 1, 1) := by decide +kernel
theorem dX3_hedge_26 : decode cX3_hedge 26 = .ok (.putfield 89, 3) := by decide +kernel
theorem dX3_hedge_29 : decode cX3_hedge 29 = .ok (.iload_n 3, 1) := by decide +kernel
theorem dX3_hedge_30 : decode cX3_hedge 30 = .ok (.ireturn, 1) := by decide +kernel
set_option maxRecDepth 20000 in
theorem ggX3_byTurn_Jx4a65c_size_8abf5 : GoodIn wsX3_byTurn wsJx4a65c_size_8abf5 := goodIn_r _ [9, 10, 67, 68, 69] (by decide +kernel) (by decide +kernel)
set_option maxRecDepth 20000 in
theorem gX3_byTurn_Jx4a65c_size_8abf5 : GoodIn wsX3_byTurn (wsV RX3 43 RJx4a65c yJx4a65c_size_8abf5 wsJx4a65c_size_8abf5) := goodIn_app (goodIn_of _ (by decide +kernel)) ggX3_byTurn_Jx4a65c_size_8abf5
set_option maxRecDepth 20000 in
theorem ggX3_byTurn_Jx4a65c_get_915e3 : GoodIn wsX3_byTurn wsJx4a65c_get_915e3 := goodIn_r _ [14, 10, 15, 16, 17, 18, 19, 20, 21, 22, 23, 24, 25, 8, 26, 27, 67, 68, 69] (by decide +kernel) (by decide +kernel)
set_option maxRecDepth 20000 in
theorem gX3_byTurn_Jx4a65c_get_915e3 : GoodIn wsX3_byTurn (wsV RX3 151 RJx4a65c yJx4a65c_get_915e3 wsJx4a65c_get_915e3) := goodIn_app (goodIn_of _ (by decide +kernel)) ggX3_byTurn_Jx4a65c_get_915e3
set_option maxRecDepth 20000 in
theorem ggX3_byTurn_X2_mayBeAsked : GoodIn wsX3_byTurn wsX2_mayBeAsked := goodIn_r _ [32, 33, 34, 35, 36, 50, 51, 52, 53, 54, 55, 56, 57, 58, 59, 60, 61, 62, 63, 64, 65, 66] (by decide +kernel) (by decide +kernel)
set_option maxRecDepth 20000 in
theorem gX3_byTurn_X2_mayBeAsked : GoodIn wsX3_byTurn (wsV RX3 182 RX2 yX2_mayBeAsked wsX2_mayBeAsked) := goodIn_app (goodIn_of _ (by decide +kernel)) ggX3_byTurn_X2_mayBeAsked
theorem dX3_byTurn_0 : decode cX3_byTurn 0 = .ok (.aconst_null, 1) := by decide +kernel
theorem dX3_byTurn_1 : decode cX3_byTurn 1 = .ok (.astore_n 2, 1) := by decide +kernel
theorem dX3_byTurn_2 : decode cX3_byTurn 2 = .ok (.iconst 0, 1) := by decide +kernel
theorem dX3_byTurn_3 : decode cX3_byTurn 3 = .ok (.istore_n 3, 1) := by decide +kernel
theorem dX3_byTurn_4 : decode cX3_byTurn 4 = .ok (.iload_n 3, 1) := by decide +kernel
theorem dX3_byTurn_5 : decode cX3_byTurn 5 = .ok (.aload_n 0, 1) := by decide +kernel
theorem dX3_byTurn_6 : decode cX3_byTurn 6 = .ok (.getfield 10, 3) := by decide +kernel
theorem dX3_byTurn_9 : decode cX3_byTurn 9 = .ok (.invokevirtual 43, 3) := by decide +kernel
theorem dX3_byTurn_12 : decode cX3_byTurn 12 = .ok (.if_icmp .ge 61, 3) := by decide +kernel
theorem dX3_byTurn_15 : decode cX3_byTurn 15 = .ok (.aload_n 0, 1) := by decide +kernel
theorem dX3_byTurn_16 : decode cX3_byTurn 16 = .ok (.getfield 10, 3) := by decide +kernel
theorem dX3_byTurn_19 : decode cX3_byTurn 19 = .ok (.iload_n 3, 1) := by decide +kernel
theorem dX3_byTurn_20 : decode cX3_byTurn 20 = .ok (.invokevirtual 151, 3) := by decide +kernel
theorem dX3_byTurn_23 : decode cX3_byTurn 23 = .ok (.checkcast 47, 3) := by decide +kernel
theorem dX3_byTurn_26 : decode cX3_byTurn 26 = .ok (.astore 4, 2) := by decide +kernel
theorem dX3_byTurn_28 : decode cX3_byTurn 28 = .ok (.aload 4, 2) := by decide +kernel
theorem dX3_byTurn_30 : decode cX3_byTurn 30 = .ok (.iload_n 1, 1) := by decide +kernel
theorem dX3_byTurn_31 : decode cX3_byTurn 31 = .ok (.invokevirtual 182, 3) := by decide +kernel
theorem dX3_byTurn_34 : decode cX3_byTurn 34 = .ok (.ifCond .eq 33, 3) := by decide +kernel
theorem dX3_byTurn_37 : decode cX3_byTurn 37 = .ok (.aload_n 2, 1) := by decide +kernel
theorem dX3_byTurn_38 : decode cX3_byTurn 38 = .ok (.ifnull 26, 3) := by decide +kernel
theorem dX3_byTurn_41 : decode cX3_byTurn 41 = .ok (.aload 4, 2) := by decide +kernel
theorem dX3_byTurn_43 : decode cX3_byTurn 43 = .ok (.getfield 186, 3) := by decide +kernel
theorem dX3_byTurn_46 : decode cX3_byTurn 46 = .ok (.aload 4, 2) := by decide +kernel
theorem dX3_byTurn_48 : decode cX3_byTurn 48 = .ok (.getfield 189, 3) := by decide +kernel
theorem dX3_byTurn_51 : decode cX3_byTurn 51 = .ok (.iadd, 1) := by decide +kernel
theorem dX3_byTurn_52 : decode cX3_byTurn 52 = .ok (.aload_n 2, 1) := by decide +kernel
theorem dX3_byTurn_53 : decode cX3_byTurn 53 = .ok (.getfield 186, 3) := by decide +kernel
theorem dX3_byTurn_56 : decode cX3_byTurn 56 = .ok (.aload_n 2, 1) := by decide +kernel
theorem dX3_byTurn_57 : decode cX3_byTurn 57 = .ok (.getfield 189, 3) := by decide +kernel
theorem dX3_byTurn_60 : decode cX3_byTurn 60 = .ok (.iadd, 1) := by decide +kernel
theorem dX3_byTurn_61 : decode cX3_byTurn 61 = .ok (.if_icmp .le 6, 3) := by decide +kernel
theorem dX3_byTurn_64 : decode cX3_byTurn 64 = .ok (.aload 4, 2) := by decide +kernel
theorem dX3_byTurn_66 : decode cX3_byTurn 66 = .ok (.astore_n 2, 1) := by decide +kernel
theorem dX3_byTurn_67 : decode cX3_byTurn 67 = .ok (.iinc 3 1, 3) := by decide +kernel
theorem dX3_byTurn_70 : decode cX3_byTurn 70 = .ok (.goto (-66), 3) := by decide +kernel
theorem dX3_byTurn_73 : decode cX3_byTurn 73 = .ok (.aload_n 2, 1) := by decide +kernel
theorem dX3_byTurn_74 : decode cX3_byTurn 74 = .ok (.areturn, 1) := by decide +kernel
set_option maxRecDepth 20000 in
theorem ggX3_chosen_X3_byTurn : GoodIn wsX3_chosen wsX3_byTurn := goodIn_r _ [6, 7, 8, 9, 10, 11, 12, 13, 14, 15, 16, 17, 18, 19, 20, 21, 22, 23, 24, 25, 26, 27, 28, 29, 30, 31, 32, 33, 34, 35, 36, 37, 38, 39, 40, 41, 42, 68, 69, 70, 71, 72, 73, 74, 75, 76, 77, 78, 79, 80, 81, 82, 83, 84, 85, 86, 87, 88, 89, 90, 91, 92, 93, 94, 95, 96, 97, 98, 99, 100] (by decide +kernel) (by decide +kernel)
set_option maxRecDepth 20000 in
theorem gX3_chosen_X3_byTurn : GoodIn wsX3_chosen (wsV RX3 173 RX3 yX3_byTurn wsX3_byTurn) := goodIn_app (goodIn_of _ (by decide +kernel)) ggX3_chosen_X3_byTurn
set_option maxRecDepth 20000 in
theorem ggX3_chosen_X3_byRing : GoodIn wsX3_chosen wsX3_byRing := goodIn_r _ [46, 47, 7, 8, 11, 12, 13, 14, 15, 16, 17, 18, 19, 20, 21, 22, 23, 24, 25, 26, 27, 28, 29, 30, 31, 32, 33, 34, 35, 36, 37, 38, 39, 40, 41, 42, 48, 49, 50, 51, 52, 53, 54, 55, 56, 57, 58, 59, 60, 61, 68, 69, 70, 71, 72, 73, 74, 75, 76, 77, 78, 79, 80, 98, 99, 100, 81, 82, 83, 84, 85, 86, 87, 88, 89, 90, 91, 92, 93, 94, 95, 96, 97] (by decide +kernel) (by decide +kernel)
set_option maxRecDepth 20000 in
theorem gX3_chosen_X3_byRing : GoodIn wsX3_chosen (wsV RX3 176 RX3 yX3_byRing wsX3_byRing) := goodIn_app (goodIn_of _ (by decide +kernel)) ggX3_chosen_X3_byRing
set_option maxRecDepth 20000 in
theorem ggX3_chosen_X3_byFewest : GoodIn wsX3_chosen wsX3_byFewest := goodIn_r _ [65, 7, 8, 66, 67, 10, 11, 12, 13, 14, 15, 16, 17, 18, 19, 20, 21, 22, 23, 24, 25, 26, 27, 28, 29, 30, 31, 32, 33, 34, 35, 36, 37, 38, 39, 40, 41, 42, 68, 69, 70, 71, 72, 73, 74, 75, 76, 77, 78, 79, 80, 81, 82, 83, 84, 85, 86, 87, 88, 89, 90, 91, 92, 93, 94, 95, 96, 97, 98, 99, 100] (by decide +kernel) (by decide +kernel)
set_option maxRecDepth 20000 in
theorem gX3_chosen_X3_byFewest : GoodIn wsX3_chosen (wsV RX3 179 RX3 yX3_byFewest wsX3_byFewest) := goodIn_app (goodIn_of _ (by decide +kernel)) ggX3_chosen_X3_byFewest
theorem dX3_chosen_0 : decode cX3_chosen 0 = .ok (.aload_n 0, 1) := by decide +kernel
theorem dX3_chosen_1 : decode cX3_chosen 1 = .ok (.getfield 29, 3) := by decide +kernel
theorem dX3_chosen_4 : decode cX3_chosen 4 = .ok (.ifCond .ne 9, 3) := by decide +kernel
theorem dX3_chosen_7 : decode cX3_chosen 7 = .ok (.aload_n 0, 1) := by decide +kernel
theorem dX3_chosen_8 : decode cX3_chosen 8 = .ok (.iload_n 2, 1) := by decide +kernel
theorem dX3_chosen_9 : decode cX3_chosen 9 = .ok (.invokevirtual 173, 3) := by decide +kernel
theorem dX3_chosen_12 : decode cX3_chosen 12 = .ok (.areturn, 1) := by decide +kernel
theorem dX3_chosen_13 : decode cX3_chosen 13 = .ok (.aload_n 0, 1) := by decide +kernel
theorem dX3_chosen_14 : decode cX3_chosen 14 = .ok (.getfield 29, 3) := by decide +kernel
theorem dX3_chosen_17 : decode cX3_chosen 17 = .ok (.iconst 2, 1) := by decide +kernel
theorem dX3_chosen_18 : decode cX3_chosen 18 = .ok (.if_icmp .ne 10, 3) := by decide +kernel
theorem dX3_chosen_21 : decode cX3_chosen 21 = .ok (.aload_n 0, 1) := by decide +kernel
theorem dX3_chosen_22 : decode cX3_chosen 22 = .ok (.iload_n 1, 1) := by decide +kernel
theorem dX3_chosen_23 : decode cX3_chosen 23 = .ok (.iload_n 2, 1) := by decide +kernel
theorem dX3_chosen_24 : decode cX3_chosen 24 = .ok (.invokevirtual 176, 3) := by decide +kernel
theorem dX3_chosen_27 : decode cX3_chosen 27 = .ok (.areturn, 1) := by decide +kernel
theorem dX3_chosen_28 : decode cX3_chosen 28 = .ok (.aload_n 0, 1) := by decide +kernel
theorem dX3_chosen_29 : decode cX3_chosen 29 = .ok (.getfield 29, 3) := by decide +kernel
theorem dX3_chosen_32 : decode cX3_chosen 32 = .ok (.iconst 3, 1) := by decide +kernel
theorem dX3_chosen_33 : decode cX3_chosen 33 = .ok (.if_icmp .ne 14, 3) := by decide +kernel
theorem dX3_chosen_36 : decode cX3_chosen 36 = .ok (.aload_n 0, 1) := by decide +kernel
theorem dX3_chosen_37 : decode cX3_chosen 37 = .ok (.iload_n 2, 1) := by decide +kernel
theorem dX3_chosen_38 : decode cX3_chosen 38 = .ok (.iload_n 1, 1) := by decide +kernel
theorem dX3_chosen_39 : decode cX3_chosen 39 = .ok (.iconst 4, 1) := by decide +kernel
theorem dX3_chosen_40 : decode cX3_chosen 40 = .ok (.irem, 1) := by decide +kernel
theorem dX3_chosen_41 : decode cX3_chosen 41 = .ok (.invokevirtual 179, 3) := by decide +kernel
theorem dX3_chosen_44 : decode cX3_chosen 44 = .ok (.goto 4, 3) := by decide +kernel
theorem dX3_chosen_47 : decode cX3_chosen 47 = .ok (.aconst_null, 1) := by decide +kernel
theorem dX3_chosen_48 : decode cX3_chosen 48 = .ok (.astore_n 3, 1) := by decide +kernel
theorem dX3_chosen_49 : decode cX3_chosen 49 = .ok (.aload_n 3, 1) := by decide +kernel
theorem dX3_chosen_50 : decode cX3_chosen 50 = .ok (.ifnull 7, 3) := by decide +kernel
theorem dX3_chosen_53 : decode cX3_chosen 53 = .ok (.aload_n 3, 1) := by decide +kernel
theorem dX3_chosen_54 : decode cX3_chosen 54 = .ok (.goto 9, 3) := by decide +kernel
theorem dX3_chosen_57 : decode cX3_chosen 57 = .ok (.aload_n 0, 1) := by decide +kernel
theorem dX3_chosen_58 : decode cX3_chosen 58 = .ok (.iload_n 2, 1) := by decide +kernel
theorem dX3_chosen_59 : decode cX3_chosen 59 = .ok (.iconst (-1), 1) := by decide +kernel
theorem dX3_chosen_60 : decode cX3_chosen 60 = .ok (.invokevirtual 179, 3) := by decide +kernel
theorem dX3_chosen_63 : decode cX3_chosen 63 = .ok (.areturn, 1) := by decide +kernel
set_option maxRecDepth 20000 in
theorem ggX3_pick_X3_faultOf : GoodIn wsX3_pick wsX3_faultOf := goodIn_r _ [6] (by decide +kernel) (by decide +kernel)
set_option maxRecDepth 20000 in
theorem gX3_pick_X3_faultOf : GoodIn wsX3_pick (va_wsS RX3 72 yX3_faultOf wsX3_faultOf) := goodIn_app (goodIn_of _ (by decide +kernel)) ggX3_pick_X3_faultOf
set_option maxRecDepth 20000 in
theorem ggX3_pick_X3_refuse : GoodIn wsX3_pick wsX3_refuse := goodIn_r _ [10, 11, 99, 100, 101, 102, 103, 104, 105, 106, 107, 108, 109, 110, 111] (by decide +kernel) (by decide +kernel)
set_option maxRecDepth 20000 in
theorem gX3_pick_X3_refuse : GoodIn wsX3_pick (wsV RX3 39 RX3 yX3_refuse wsX3_refuse) := goodIn_app (goodIn_of _ (by decide +kernel)) ggX3_pick_X3_refuse
set_option maxRecDepth 20000 in
theorem ggX3_pick_X3_chosen : GoodIn wsX3_pick wsX3_chosen := goodIn_r _ [15, 16, 17, 18, 19, 5, 20, 21, 22, 23, 24, 25, 26, 27, 28, 29, 30, 31, 32, 33, 34, 35, 36, 37, 38, 39, 40, 41, 42, 43, 44, 45, 46, 47, 48, 49, 50, 51, 52, 53, 54, 55, 56, 57, 58, 59, 60, 61, 62, 63, 64, 65, 66, 67, 68, 69, 70, 71, 72, 73, 74, 75, 76, 77, 78, 79, 80, 81, 99, 100, 101, 102, 103, 104, 105, 106, 107, 108, 109, 110, 111, 82, 83, 84, 85, 86, 87, 88, 89, 90, 91, 92, 93, 94, 95, 96, 97, 98, 112, 113, 114] (by decide +kernel) (by decide +kernel)
set_option maxRecDepth 20000 in
theorem gX3_pick_X3_chosen : GoodIn wsX3_pick (wsV RX3 140 RX3 yX3_chosen wsX3_chosen) := goodIn_app (goodIn_of _ (by decide +kernel)) ggX3_pick_X3_chosen
theorem dX3_pick_0 : decode cX3_pick 0 = .ok (.iload_n 1, 1) := by decide +kernel
theorem dX3_pick_1 : decode cX3_pick 1 = .ok (.iconst 0, 1) := by decide +kernel
theorem dX3_pick_2 : decode cX3_pick 2 = .ok (.ldc 92, 2) := by decide +kernel
theorem dX3_pick_4 : decode cX3_pick 4 = .ok (.invokestatic 72, 3) := by decide +kernel
theorem dX3_pick_7 : decode cX3_pick 7 = .ok (.istore_n 2, 1) := by decide +kernel
theorem dX3_pick_8 : decode cX3_pick 8 = .ok (.iload_n 2, 1) := by decide +kernel
theorem dX3_pick_9 : decode cX3_pick 9 = .ok (.ifCond .eq 9, 3) := by decide +kernel
theorem dX3_pick_12 : decode cX3_pick 12 = .ok (.aload_n 0, 1) := by decide +kernel
theorem dX3_pick_13 : decode cX3_pick 13 = .ok (.iload_n 2, 1) := by decide +kernel
theorem dX3_pick_14 : decode cX3_pick 14 = .ok (.invokevirtual 39, 3) := by decide +kernel
theorem dX3_pick_17 : decode cX3_pick 17 = .ok (.ireturn, 1) := by decide +kernel
theorem dX3_pick_18 : decode cX3_pick 18 = .ok (.aload_n 0, 1) := by decide +kernel
theorem dX3_pick_19 : decode cX3_pick 19 = .ok (.iload_n 1, 1) := by decide +kernel
theorem dX3_pick_20 : decode cX3_pick 20 = .ok (.iconst 0, 1) := by decide +kernel
theorem dX3_pick_21 : decode cX3_pick 21 = .ok (.invokevirtual 140, 3) := by decide +kernel
theorem dX3_pick_24 : decode cX3_pick 24 = .ok (.astore_n 3, 1) := by decide +kernel
theorem dX3_pick_25 : decode cX3_pick 25 = .ok (.aload_n 3, 1) := by decide +kernel
theorem dX3_pick_26 : decode cX3_pick 26 = .ok (.ifnonnull 8, 3) := by decide +kernel
theorem dX3_pick_29 : decode cX3_pick 29 = .ok (.bipush (-9), 2) := by decide +kernel
theorem dX3_pick_31 : decode cX3_pick 31 = .ok (.goto 7, 3) := by decide +kernel
theorem dX3_pick_34 : decode cX3_pick 34 = .ok (.aload_n 3, 1) := by decide +kernel
theorem dX3_pick_35 : decode cX3_pick 35 = .ok (.getfield 56, 3) := by decide +kernel
theorem dX3_pick_38 : decode cX3_pick 38 = .ok (.ireturn, 1) := by decide +kernel
set_option maxRecDepth 20000 in
theorem ggX3_queue_Jx4a65c_size_8abf5 : GoodIn wsX3_queue wsJx4a65c_size_8abf5 := goodIn_r _ [8, 9, 52, 53, 54] (by decide +kernel) (by decide +kernel)
set_option maxRecDepth 20000 in
theorem gX3_queue_Jx4a65c_size_8abf5 : GoodIn wsX3_queue (wsV RX3 43 RJx4a65c yJx4a65c_size_8abf5 wsJx4a65c_size_8abf5) := goodIn_app (goodIn_of _ (by decide +kernel)) ggX3_queue_Jx4a65c_size_8abf5
set_option maxRecDepth 20000 in
theorem ggX3_queue_Jx4a65c_get_915e3 : GoodIn wsX3_queue wsJx4a65c_get_915e3 := goodIn_r _ [13, 9, 14, 15, 16, 17, 18, 19, 20, 21, 22, 23, 24, 7, 25, 26, 52, 53, 54] (by decide +kernel) (by decide +kernel)
set_option maxRecDepth 20000 in
theorem gX3_queue_Jx4a65c_get_915e3 : GoodIn wsX3_queue (wsV RX3 151 RJx4a65c yJx4a65c_get_915e3 wsJx4a65c_get_915e3) := goodIn_app (goodIn_of _ (by decide +kernel)) ggX3_queue_Jx4a65c_get_915e3
theorem dX3_queue_0 : decode cX3_queue 0 = .ok (.iload_n 1, 1) := by decide +kernel
theorem dX3_queue_1 : decode cX3_queue 1 = .ok (.ifCond .lt 14, 3) := by decide +kernel
theorem dX3_queue_4 : decode cX3_queue 4 = .ok (.iload_n 1, 1) := by decide +kernel
theorem dX3_queue_5 : decode cX3_queue 5 = .ok (.aload_n 0, 1) := by decide +kernel
theorem dX3_queue_6 : decode cX3_queue 6 = .ok (.getfield 22, 3) := by decide +kernel
theorem dX3_queue_9 : decode cX3_queue 9 = .ok (.invokevirtual 43, 3) := by decide +kernel
theorem dX3_queue_12 : decode cX3_queue 12 = .ok (.if_icmp .lt 8, 3) := by decide +kernel
theorem dX3_queue_15 : decode cX3_queue 15 = .ok (.bipush (-9), 2) := by decide +kernel
theorem dX3_queue_17 : decode cX3_queue 17 = .ok (.goto 17, 3) := by decide +kernel
theorem dX3_queue_20 : decode cX3_queue 20 = .ok (.aload_n 0, 1) := by decide +kernel
theorem dX3_queue_21 : decode cX3_queue 21 = .ok (.getfield 22, 3) := by decide +kernel
theorem dX3_queue_24 : decode cX3_queue 24 = .ok (.iload_n 1, 1) := by decide +kernel
theorem dX3_queue_25 : decode cX3_queue 25 = .ok (.invokevirtual 151, 3) := by decide +kernel
theorem dX3_queue_28 : decode cX3_queue 28 = .ok (.checkcast 93, 3) := by decide +kernel
theorem dX3_queue_31 : decode cX3_queue 31 = .ok (.getfield 109, 3) := by decide +kernel
theorem dX3_queue_34 : decode cX3_queue 34 = .ok (.ireturn, 1) := by decide +kernel
set_option maxRecDepth 20000 in
theorem ggX3_callsThatAre_Jx4a65c_size_8abf5 : GoodIn wsX3_callsThatAre wsJx4a65c_size_8abf5 := goodIn_r _ [8, 9, 52, 53, 54] (by decide +kernel) (by decide +kernel)
set_option maxRecDepth 20000 in
theorem gX3_callsThatAre_Jx4a65c_size_8abf5 : GoodIn wsX3_callsThatAre (wsV RX3 43 RJx4a65c yJx4a65c_size_8abf5 wsJx4a65c_size_8abf5) := goodIn_app (goodIn_of _ (by decide +kernel)) ggX3_callsThatAre_Jx4a65c_size_8abf5
set_option maxRecDepth 20000 in
theorem ggX3_callsThatAre_Jx4a65c_get_915e3 : GoodIn wsX3_callsThatAre wsJx4a65c_get_915e3 := goodIn_r _ [13, 9, 14, 15, 16, 17, 18, 19, 20, 21, 22, 23, 24, 7, 25, 26, 52, 53, 54] (by decide +kernel) (by decide +kernel)
set_option maxRecDepth 20000 in
theorem gX3_callsThatAre_Jx4a65c_get_915e3 : GoodIn wsX3_callsThatAre (wsV RX3 151 RJx4a65c yJx4a65c_get_915e3 wsJx4a65c_get_915e3) := goodIn_app (goodIn_of _ (by decide +kernel)) ggX3_callsThatAre_Jx4a65c_get_915e3
theorem dX3_callsThatAre_0 : decode cX3_callsThatAre 0 = .ok (.iconst 0, 1) := by decide +kernel
theorem dX3_callsThatAre_1 : decode cX3_callsThatAre 1 = .ok (.istore_n 2, 1) := by decide +kernel
theorem dX3_callsThatAre_2 : decode cX3_callsThatAre 2 = .ok (.iconst 0, 1) := by decide +kernel
theorem dX3_callsThatAre_3 : decode cX3_callsThatAre 3 = .ok (.istore_n 3, 1) := by decide +kernel
theorem dX3_callsThatAre_4 : decode cX3_callsThatAre 4 = .ok (.iload_n 3, 1) := by decide +kernel
theorem dX3_callsThatAre_5 : decode cX3_callsThatAre 5 = .ok (.aload_n 0, 1) := by decide +kernel
theorem dX3_callsThatAre_6 : decode cX3_callsThatAre 6 = .ok (.getfield 16, 3) := by decide +kernel
theorem dX3_callsThatAre_9 : decode cX3_callsThatAre 9 = .ok (.invokevirtual 43, 3) := by decide +kernel
theorem dX3_callsThatAre_12 : decode cX3_callsThatAre 12 = .ok (.if_icmp .ge 30, 3) := by decide +kernel
theorem dX3_callsThatAre_15 : decode cX3_callsThatAre 15 = .ok (.aload_n 0, 1) := by decide +kernel
theorem dX3_callsThatAre_16 : decode cX3_callsThatAre 16 = .ok (.getfield 16, 3) := by decide +kernel
theorem dX3_callsThatAre_19 : decode cX3_callsThatAre 19 = .ok (.iload_n 3, 1) := by decide +kernel
theorem dX3_callsThatAre_20 : decode cX3_callsThatAre 20 = .ok (.invokevirtual 151, 3) := by decide +kernel
theorem dX3_callsThatAre_23 : decode cX3_callsThatAre 23 = .ok (.checkcast 93, 3) := by decide +kernel
theorem dX3_callsThatAre_26 : decode cX3_callsThatAre 26 = .ok (.getfield 118, 3) := by decide +kernel
theorem dX3_callsThatAre_29 : decode cX3_callsThatAre 29 = .ok (.iload_n 1, 1) := by decide +kernel
theorem dX3_callsThatAre_30 : decode cX3_callsThatAre 30 = .ok (.if_icmp .ne 6, 3) := by decide +kernel
theorem dX3_callsThatAre_33 : decode cX3_callsThatAre 33 = .ok (.iinc 2 1, 3) := by decide +kernel
theorem dX3_callsThatAre_36 : decode cX3_callsThatAre 36 = .ok (.iinc 3 1, 3) := by decide +kernel
theorem dX3_callsThatAre_39 : decode cX3_callsThatAre 39 = .ok (.goto (-35), 3) := by decide +kernel
theorem dX3_callsThatAre_42 : decode cX3_callsThatAre 42 = .ok (.iload_n 2, 1) := by decide +kernel
theorem dX3_callsThatAre_43 : decode cX3_callsThatAre 43 = .ok (.ireturn, 1) := by decide +kernel
set_option maxRecDepth 20000 in
theorem ggX3_askingsSoFar_Jx4a65c_size_8abf5 : GoodIn wsX3_askingsSoFar wsJx4a65c_size_8abf5 := goodIn_r _ [8, 9, 57, 58, 59] (by decide +kernel) (by decide +kernel)
set_option maxRecDepth 20000 in
theorem gX3_askingsSoFar_Jx4a65c_size_8abf5 : GoodIn wsX3_askingsSoFar (wsV RX3 43 RJx4a65c yJx4a65c_size_8abf5 wsJx4a65c_size_8abf5) := goodIn_app (goodIn_of _ (by decide +kernel)) ggX3_askingsSoFar_Jx4a65c_size_8abf5
set_option maxRecDepth 20000 in
theorem ggX3_askingsSoFar_Jx4a65c_get_915e3 : GoodIn wsX3_askingsSoFar wsJx4a65c_get_915e3 := goodIn_r _ [13, 9, 14, 15, 16, 17, 18, 19, 20, 21, 22, 23, 24, 7, 25, 26, 57, 58, 59] (by decide +kernel) (by decide +kernel)
set_option maxRecDepth 20000 in
theorem gX3_askingsSoFar_Jx4a65c_get_915e3 : GoodIn wsX3_askingsSoFar (wsV RX3 151 RJx4a65c yJx4a65c_get_915e3 wsJx4a65c_get_915e3) := goodIn_app (goodIn_of _ (by decide +kernel)) ggX3_askingsSoFar_Jx4a65c_get_915e3
theorem dX3_askingsSoFar_0 : decode cX3_askingsSoFar 0 = .ok (.iconst 0, 1) := by decide +kernel
theorem dX3_askingsSoFar_1 : decode cX3_askingsSoFar 1 = .ok (.istore_n 1, 1) := by decide +kernel
theorem dX3_askingsSoFar_2 : decode cX3_askingsSoFar 2 = .ok (.iconst 0, 1) := by decide +kernel
theorem dX3_askingsSoFar_3 : decode cX3_askingsSoFar 3 = .ok (.istore_n 2, 1) := by decide +kernel
theorem dX3_askingsSoFar_4 : decode cX3_askingsSoFar 4 = .ok (.iload_n 2, 1) := by decide +kernel
theorem dX3_askingsSoFar_5 : decode cX3_askingsSoFar 5 = .ok (.aload_n 0, 1) := by decide +kernel
theorem dX3_askingsSoFar_6 : decode cX3_askingsSoFar 6 = .ok (.getfield 10, 3) := by decide +kernel
theorem dX3_askingsSoFar_9 : decode cX3_askingsSoFar 9 = .ok (.invokevirtual 43, 3) := by decide +kernel
theorem dX3_askingsSoFar_12 : decode cX3_askingsSoFar 12 = .ok (.if_icmp .ge 26, 3) := by decide +kernel
theorem dX3_askingsSoFar_15 : decode cX3_askingsSoFar 15 = .ok (.iload_n 1, 1) := by decide +kernel
theorem dX3_askingsSoFar_16 : decode cX3_askingsSoFar 16 = .ok (.aload_n 0, 1) := by decide +kernel
theorem dX3_askingsSoFar_17 : decode cX3_askingsSoFar 17 = .ok (.getfield 10, 3) := by decide +kernel
theorem dX3_askingsSoFar_20 : decode cX3_askingsSoFar 20 = .ok (.iload_n 2, 1) := by decide +kernel
theorem dX3_askingsSoFar_21 : decode cX3_askingsSoFar 21 = .ok (.invokevirtual 151, 3) := by decide +kernel
theorem dX3_askingsSoFar_24 : decode cX3_askingsSoFar 24 = .ok (.checkcast 47, 3) := by decide +kernel
theorem dX3_askingsSoFar_27 : decode cX3_askingsSoFar 27 = .ok (.getfield 158, 3) := by decide +kernel
theorem dX3_askingsSoFar_30 : decode cX3_askingsSoFar 30 = .ok (.iadd, 1) := by decide +kernel
theorem dX3_askingsSoFar_31 : decode cX3_askingsSoFar 31 = .ok (.istore_n 1, 1) := by decide +kernel
theorem dX3_askingsSoFar_32 : decode cX3_askingsSoFar 32 = .ok (.iinc 2 1, 3) := by decide +kernel
theorem dX3_askingsSoFar_35 : decode cX3_askingsSoFar 35 = .ok (.goto (-31), 3) := by decide +kernel
theorem dX3_askingsSoFar_38 : decode cX3_askingsSoFar 38 = .ok (.iload_n 1, 1) := by decide +kernel
theorem dX3_askingsSoFar_39 : decode cX3_askingsSoFar 39 = .ok (.ireturn, 1) := by decide +kernel
set_option maxRecDepth 20000 in
theorem ggX3_openAskings_Jx4a65c_size_8abf5 : GoodIn wsX3_openAskings wsJx4a65c_size_8abf5 := goodIn_r _ [8, 9, 57, 58, 59] (by decide +kernel) (by decide +kernel)
set_option maxRecDepth 20000 in
theorem gX3_openAskings_Jx4a65c_size_8abf5 : GoodIn wsX3_openAskings (wsV RX3 43 RJx4a65c yJx4a65c_size_8abf5 wsJx4a65c_size_8abf5) := goodIn_app (goodIn_of _ (by decide +kernel)) ggX3_openAskings_Jx4a65c_size_8abf5
set_option maxRecDepth 20000 in
theorem ggX3_openAskings_Jx4a65c_get_915e3 : GoodIn wsX3_openAskings wsJx4a65c_get_915e3 := goodIn_r _ [13, 9, 14, 15, 16, 17, 18, 19, 20, 21, 22, 23, 24, 7, 25, 26, 57, 58, 59] (by decide +kernel) (by decide +kernel)
set_option maxRecDepth 20000 in
theorem gX3_openAskings_Jx4a65c_get_915e3 : GoodIn wsX3_openAskings (wsV RX3 151 RJx4a65c yJx4a65c_get_915e3 wsJx4a65c_get_915e3) := goodIn_app (goodIn_of _ (by decide +kernel)) ggX3_openAskings_Jx4a65c_get_915e3
theorem dX3_openAskings_0 : decode cX3_openAskings 0 = .ok (.iconst 0, 1) := by decide +kernel
theorem dX3_openAskings_1 : decode cX3_openAskings 1 = .ok (.istore_n 1, 1) := by decide +kernel
theorem dX3_openAskings_2 : decode cX3_openAskings 2 = .ok (.iconst 0, 1) := by decide +kernel
theorem dX3_openAskings_3 : decode cX3_openAskings 3 = .ok (.istore_n 2, 1) := by decide +kernel
theorem dX3_openAskings_4 : decode cX3_openAskings 4 = .ok (.iload_n 2, 1) := by decide +kernel
theorem dX3_openAskings_5 : decode cX3_openAskings 5 = .ok (.aload_n 0, 1) := by decide +kernel
theorem dX3_openAskings_6 : decode cX3_openAskings 6 = .ok (.getfield 10, 3) := by decide +kernel
theorem dX3_openAskings_9 : decode cX3_openAskings 9 = .ok (.invokevirtual 43, 3) := by decide +kernel
theorem dX3_openAskings_12 : decode cX3_openAskings 12 = .ok (.if_icmp .ge 26, 3) := by decide +kernel
theorem dX3_openAskings_15 : decode cX3_openAskings 15 = .ok (.iload_n 1, 1) := by decide +kernel
theorem dX3_openAskings_16 : decode cX3_openAskings 16 = .ok (.aload_n 0, 1) := by decide +kernel
theorem dX3_openAskings_17 : decode cX3_openAskings 17 = .ok (.getfield 10, 3) := by decide +kernel
theorem dX3_openAskings_20 : decode cX3_openAskings 20 = .ok (.iload_n 2, 1) := by decide +kernel
theorem dX3_openAskings_21 : decode cX3_openAskings 21 = .ok (.invokevirtual 151, 3) := by decide +kernel
theorem dX3_openAskings_24 : decode cX3_openAskings 24 = .ok (.checkcast 47, 3) := by decide +kernel
theorem dX3_openAskings_27 : decode cX3_openAskings 27 = .ok (.getfield 80, 3) := by decide +kernel
theorem dX3_openAskings_30 : decode cX3_openAskings 30 = .ok (.iadd, 1) := by decide +kernel
theorem dX3_openAskings_31 : decode cX3_openAskings 31 = .ok (.istore_n 1, 1) := by decide +kernel
theorem dX3_openAskings_32 : decode cX3_openAskings 32 = .ok (.iinc 2 1, 3) := by decide +kernel
theorem dX3_openAskings_35 : decode cX3_openAskings 35 = .ok (.goto (-31), 3) := by decide +kernel
theorem dX3_openAskings_38 : decode cX3_openAskings 38 = .ok (.iload_n 1, 1) := by decide +kernel
theorem dX3_openAskings_39 : decode cX3_openAskings 39 = .ok (.ireturn, 1) := by decide +kernel
set_option maxRecDepth 20000 in
theorem ggX3_count_X3_callsThatAre : GoodIn wsX3_count wsX3_callsThatAre := goodIn_r _ [11, 4, 12, 13, 14, 15, 16, 17, 18, 19, 20, 21, 22, 23, 24, 25, 26, 27, 28, 29, 30, 31, 32, 33, 34, 35, 36, 48, 49, 50, 51, 52, 53, 54, 55, 56, 57, 58, 59, 60, 61, 62, 63, 64, 65, 66, 67, 68, 69, 70, 71, 72, 73, 74, 75] (by decide +kernel) (by decide +kernel)
set_option maxRecDepth 20000 in
theorem gX3_count_X3_callsThatAre : GoodIn wsX3_count (wsV RX3 161 RX3 yX3_callsThatAre wsX3_callsThatAre) := goodIn_app (goodIn_of _ (by decide +kernel)) ggX3_count_X3_callsThatAre
set_option maxRecDepth 20000 in
theorem ggX3_count_Jx4a65c_size_8abf5 : GoodIn wsX3_count wsJx4a65c_size_8abf5 := goodIn_r _ [18, 19, 73, 74, 75] (by decide +kernel) (by decide +kernel)
set_option maxRecDepth 20000 in
theorem gX3_count_Jx4a65c_size_8abf5 : GoodIn wsX3_count (wsV RX3 43 RJx4a65c yJx4a65c_size_8abf5 wsJx4a65c_size_8abf5) := goodIn_app (goodIn_of _ (by decide +kernel)) ggX3_count_Jx4a65c_size_8abf5
set_option maxRecDepth 20000 in
theorem ggX3_count_X3_askingsSoFar : GoodIn wsX3_count wsX3_askingsSoFar := goodIn_r _ [40, 3, 41, 42, 14, 15, 16, 17, 18, 19, 20, 21, 22, 23, 24, 25, 26, 27, 28, 29, 30, 31, 32, 33, 34, 35, 36, 48, 49, 50, 51, 52, 53, 54, 55, 56, 57, 58, 59, 60, 76, 77, 78, 79, 80, 81, 82, 83, 84, 85, 86, 87, 88, 89, 90, 91, 92, 73, 74, 75] (by decide +kernel) (by decide +kernel)
set_option maxRecDepth 20000 in
theorem gX3_count_X3_askingsSoFar : GoodIn wsX3_count (wsV RX3 155 RX3 yX3_askingsSoFar wsX3_askingsSoFar) := goodIn_app (goodIn_of _ (by decide +kernel)) ggX3_count_X3_askingsSoFar
set_option maxRecDepth 20000 in
theorem ggX3_count_X3_openAskings : GoodIn wsX3_count wsX3_openAskings := goodIn_r _ [46, 3, 41, 47, 14, 15, 16, 17, 18, 19, 20, 21, 22, 23, 24, 25, 26, 27, 28, 29, 30, 31, 32, 33, 34, 35, 36, 48, 49, 50, 51, 52, 53, 54, 55, 56, 57, 58, 59, 60, 76, 77, 78, 79, 80, 81, 82, 83, 84, 85, 86, 87, 88, 89, 90, 91, 92, 73, 74, 75] (by decide +kernel) (by decide +kernel)
set_option maxRecDepth 20000 in
theorem gX3_count_X3_openAskings : GoodIn wsX3_count (wsV RX3 170 RX3 yX3_openAskings wsX3_openAskings) := goodIn_app (goodIn_of _ (by decide +kernel)) ggX3_count_X3_openAskings
theorem dX3_count_0 : decode cX3_count 0 = .ok (.iload_n 1, 1) := by decide +kernel
theorem dX3_count_1 : decode cX3_count 1 = .ok (.iconst 3, 1) := by decide +kernel
theorem dX3_count_2 : decode cX3_count 2 = .ok (.if_icmp .lt 17, 3) := by decide +kernel
theorem dX3_count_5 : decode cX3_count 5 = .ok (.iload_n 1, 1) := by decide +kernel
theorem dX3_count_6 : decode cX3_count 6 = .ok (.bipush 7, 2) := by decide +kernel
theorem dX3_count_8 : decode cX3_count 8 = .ok (.if_icmp .gt 11, 3) := by decide +kernel
theorem dX3_count_11 : decode cX3_count 11 = .ok (.aload_n 0, 1) := by decide +kernel
theorem dX3_count_12 : decode cX3_count 12 = .ok (.iload_n 1, 1) := by decide +kernel
theorem dX3_count_13 : decode cX3_count 13 = .ok (.iconst 3, 1) := by decide +kernel
theorem dX3_count_14 : decode cX3_count 14 = .ok (.isub, 1) := by decide +kernel
theorem dX3_count_15 : decode cX3_count 15 = .ok (.invokevirtual 161, 3) := by decide +kernel
theorem dX3_count_18 : decode cX3_count 18 = .ok (.ireturn, 1) := by decide +kernel
theorem dX3_count_19 : decode cX3_count 19 = .ok (.iload_n 1, 1) := by decide +kernel
theorem dX3_count_20 : decode cX3_count 20 = .ok (.bipush 11, 2) := by decide +kernel
theorem dX3_count_22 : decode cX3_count 22 = .ok (.if_icmp .lt 19, 3) := by decide +kernel
theorem dX3_count_25 : decode cX3_count 25 = .ok (.iload_n 1, 1) := by decide +kernel
theorem dX3_count_26 : decode cX3_count 26 = .ok (.bipush 16, 2) := by decide +kernel
theorem dX3_count_28 : decode cX3_count 28 = .ok (.if_icmp .gt 13, 3) := by decide +kernel
theorem dX3_count_31 : decode cX3_count 31 = .ok (.aload_n 0, 1) := by decide +kernel
theorem dX3_count_32 : decode cX3_count 32 = .ok (.getfield 25, 3) := by decide +kernel
theorem dX3_count_35 : decode cX3_count 35 = .ok (.iload_n 1, 1) := by decide +kernel
theorem dX3_count_36 : decode cX3_count 36 = .ok (.bipush 10, 2) := by decide +kernel
theorem dX3_count_38 : decode cX3_count 38 = .ok (.isub, 1) := by decide +kernel
theorem dX3_count_39 : decode cX3_count 39 = .ok (.iaload, 1) := by decide +kernel
theorem dX3_count_40 : decode cX3_count 40 = .ok (.ireturn, 1) := by decide +kernel
theorem dX3_count_41 : decode cX3_count 41 = .ok (.iload_n 1, 1) := by decide +kernel
theorem dX3_count_42 : decode cX3_count 42 = .ok (.tableswitch 127 0 17 #[86, 91, 99, 127, 127, 127, 127, 127, 107, 112, 117, 127, 127, 127, 127, 127, 127, 122], 86) := by decide +kernel
theorem dX3_count_128 : decode cX3_count 128 = .ok (.aload_n 0, 1) := by decide +kernel
theorem dX3_count_129 : decode cX3_count 129 = .ok (.getfield 95, 3) := by decide +kernel
theorem dX3_count_132 : decode cX3_count 132 = .ok (.ireturn, 1) := by decide +kernel
theorem dX3_count_133 : decode cX3_count 133 = .ok (.aload_n 0, 1) := by decide +kernel
theorem dX3_count_134 : decode cX3_count 134 = .ok (.getfield 10, 3) := by decide +kernel
theorem dX3_count_137 : decode cX3_count 137 = .ok (.invokevirtual 43, 3) := by decide +kernel
theorem dX3_count_140 : decode cX3_count 140 = .ok (.ireturn, 1) := by decide +kernel
theorem dX3_count_141 : decode cX3_count 141 = .ok (.aload_n 0, 1) := by decide +kernel
theorem dX3_count_142 : decode cX3_count 142 = .ok (.getfield 16, 3) := by decide +kernel
theorem dX3_count_145 : decode cX3_count 145 = .ok (.invokevirtual 43, 3) := by decide +kernel
theorem dX3_count_148 : decode cX3_count 148 = .ok (.ireturn, 1) := by decide +kernel
theorem dX3_count_149 : decode cX3_count 149 = .ok (.aload_n 0, 1) := by decide +kernel
theorem dX3_count_150 : decode cX3_count 150 = .ok (.invokevirtual 155, 3) := by decide +kernel
theorem dX3_count_153 : decode cX3_count 153 = .ok (.ireturn, 1) := by decide +kernel
theorem dX3_count_154 : decode cX3_count 154 = .ok (.aload_n 0, 1) := by decide +kernel
theorem dX3_count_155 : decode cX3_count 155 = .ok (.getfield 164, 3) := by decide +kernel
theorem dX3_count_158 : decode cX3_count 158 = .ok (.ireturn, 1) := by decide +kernel
theorem dX3_count_159 : decode cX3_count 159 = .ok (.aload_n 0, 1) := by decide +kernel
theorem dX3_count_160 : decode cX3_count 160 = .ok (.getfield 167, 3) := by decide +kernel
theorem dX3_count_163 : decode cX3_count 163 = .ok (.ireturn, 1) := by decide +kernel
theorem dX3_count_164 : decode cX3_count 164 = .ok (.aload_n 0, 1) := by decide +kernel
theorem dX3_count_165 : decode cX3_count 165 = .ok (.invokevirtual 170, 3) := by decide +kernel
theorem dX3_count_168 : decode cX3_count 168 = .ok (.ireturn, 1) := by decide +kernel
theorem dX3_count_169 : decode cX3_count 169 = .ok (.bipush (-9), 2) := by decide +kernel
theorem dX3_count_171 : decode cX3_count 171 = .ok (.ireturn, 1) := by decide +kernel
set_option maxRecDepth 20000 in
theorem ggX3_server_X3_refuse : GoodIn wsX3_server wsX3_refuse := goodIn_r _ [10, 11, 86, 87, 88, 89, 90, 91, 92, 93, 94, 95, 96, 97, 98] (by decide +kernel) (by decide +kernel)
set_option maxRecDepth 20000 in
theorem gX3_server_X3_refuse : GoodIn wsX3_server (wsV RX3 39 RX3 yX3_refuse wsX3_refuse) := goodIn_app (goodIn_of _ (by decide +kernel)) ggX3_server_X3_refuse
set_option maxRecDepth 20000 in
theorem ggX3_server_Jx4a65c_size_8abf5 : GoodIn wsX3_server wsJx4a65c_size_8abf5 := goodIn_r _ [16, 17, 116, 117, 118] (by decide +kernel) (by decide +kernel)
set_option maxRecDepth 20000 in
theorem gX3_server_Jx4a65c_size_8abf5 : GoodIn wsX3_server (wsV RX3 43 RJx4a65c yJx4a65c_size_8abf5 wsJx4a65c_size_8abf5) := goodIn_app (goodIn_of _ (by decide +kernel)) ggX3_server_Jx4a65c_size_8abf5
set_option maxRecDepth 20000 in
theorem ggX3_server_X2_init : GoodIn wsX3_server wsX2_init := goodIn_r _ [20, 21, 22, 23, 24, 25, 26, 27, 28, 29, 30, 31, 99, 100, 101, 102, 103, 104, 105, 106, 107, 108, 109, 110, 111, 112, 113, 114, 115] (by decide +kernel) (by decide +kernel)
set_option maxRecDepth 20000 in
theorem gX3_server_X2_init : GoodIn wsX3_server (wsX2_init) := ggX3_server_X2_init
set_option maxRecDepth 20000 in
theorem ggX3_server_Jx4a65c_add_9ea2d : GoodIn wsX3_server wsJx4a65c_add_9ea2d := goodIn_r _ [35, 36, 37, 38, 17, 39, 40, 41, 15, 42, 43, 44, 45, 46, 47, 48, 49, 50, 51, 52, 53, 54, 55, 56, 57, 58, 59, 60, 61, 62, 63, 64, 65, 66, 67, 68, 69, 70, 71, 72, 73, 74, 75, 76, 77, 78, 79, 80, 81, 82, 83, 84, 85, 116, 117, 118] (by decide +kernel) (by decide +kernel)
set_option maxRecDepth 20000 in
theorem gX3_server_Jx4a65c_add_9ea2d : GoodIn wsX3_server (wsV RX3 52 RJx4a65c yJx4a65c_add_9ea2d wsJx4a65c_add_9ea2d) := goodIn_app (goodIn_of _ (by decide +kernel)) ggX3_server_Jx4a65c_add_9ea2d
theorem dX3_server_0 : decode cX3_server 0 = .ok (.iload_n 2, 1) := by decide +kernel
theorem dX3_server_1 : decode cX3_server 1 = .ok (.ifCond .lt 8, 3) := by decide +kernel
theorem dX3_server_4 : decode cX3_server 4 = .ok (.iload_n 2, 1) := by decide +kernel
theorem dX3_server_5 : decode cX3_server 5 = .ok (.iconst 4, 1) := by decide +kernel
theorem dX3_server_6 : decode cX3_server 6 = .ok (.if_icmp .lt 9, 3) := by decide +kernel
theorem dX3_server_9 : decode cX3_server 9 = .ok (.aload_n 0, 1) := by decide +kernel
theorem dX3_server_10 : decode cX3_server 10 = .ok (.iconst (-1), 1) := by decide +kernel
theorem dX3_server_11 : decode cX3_server 11 = .ok (.invokevirtual 39, 3) := by decide +kernel
theorem dX3_server_14 : decode cX3_server 14 = .ok (.ireturn, 1) := by decide +kernel
theorem dX3_server_15 : decode cX3_server 15 = .ok (.iload_n 1, 1) := by decide +kernel
theorem dX3_server_16 : decode cX3_server 16 = .ok (.iconst 1, 1) := by decide +kernel
theorem dX3_server_17 : decode cX3_server 17 = .ok (.if_icmp .lt 19, 3) := by decide +kernel
theorem dX3_server_20 : decode cX3_server 20 = .ok (.iload_n 3, 1) := by decide +kernel
theorem dX3_server_21 : decode cX3_server 21 = .ok (.iconst 1, 1) := by decide +kernel
theorem dX3_server_22 : decode cX3_server 22 = .ok (.if_icmp .lt 14, 3) := by decide +kernel
theorem dX3_server_25 : decode cX3_server 25 = .ok (.iload 4, 2) := by decide +kernel
theorem dX3_server_27 : decode cX3_server 27 = .ok (.iconst 1, 1) := by decide +kernel
theorem dX3_server_28 : decode cX3_server 28 = .ok (.if_icmp .lt 8, 3) := by decide +kernel
theorem dX3_server_31 : decode cX3_server 31 = .ok (.iload 5, 2) := by decide +kernel
theorem dX3_server_33 : decode cX3_server 33 = .ok (.ifCond .ge 10, 3) := by decide +kernel
theorem dX3_server_36 : decode cX3_server 36 = .ok (.aload_n 0, 1) := by decide +kernel
theorem dX3_server_37 : decode cX3_server 37 = .ok (.bipush (-4), 2) := by decide +kernel
theorem dX3_server_39 : decode cX3_server 39 = .ok (.invokevirtual 39, 3) := by decide +kernel
theorem dX3_server_42 : decode cX3_server 42 = .ok (.ireturn, 1) := by decide +kernel
theorem dX3_server_43 : decode cX3_server 43 = .ok (.iload_n 1, 1) := by decide +kernel
theorem dX3_server_44 : decode cX3_server 44 = .ok (.bipush 100, 2) := by decide +kernel
theorem dX3_server_46 : decode cX3_server 46 = .ok (.if_icmp .gt 24, 3) := by decide +kernel
theorem dX3_server_49 : decode cX3_server 49 = .ok (.iload_n 3, 1) := by decide +kernel
theorem dX3_server_50 : decode cX3_server 50 = .ok (.bipush 20, 2) := by decide +kernel
theorem dX3_server_52 : decode cX3_server 52 = .ok (.if_icmp .gt 18, 3) := by decide +kernel
theorem dX3_server_55 : decode cX3_server 55 = .ok (.iload 4, 2) := by decide +kernel
theorem dX3_server_57 : decode cX3_server 57 = .ok (.sipush 200, 3) := by decide +kernel
theorem dX3_server_60 : decode cX3_server 60 = .ok (.if_icmp .gt 10, 3) := by decide +kernel
theorem dX3_server_63 : decode cX3_server 63 = .ok (.iload 5, 2) := by decide +kernel
theorem dX3_server_65 : decode cX3_server 65 = .ok (.bipush 20, 2) := by decide +kernel
theorem dX3_server_67 : decode cX3_server 67 = .ok (.if_icmp .le 10, 3) := by decide +kernel
theorem dX3_server_70 : decode cX3_server 70 = .ok (.aload_n 0, 1) := by decide +kernel
theorem dX3_server_71 : decode cX3_server 71 = .ok (.bipush (-6), 2) := by decide +kernel
theorem dX3_server_73 : decode cX3_server 73 = .ok (.invokevirtual 39, 3) := by decide +kernel
theorem dX3_server_76 : decode cX3_server 76 = .ok (.ireturn, 1) := by decide +kernel
theorem dX3_server_77 : decode cX3_server 77 = .ok (.aload_n 0, 1) := by decide +kernel
theorem dX3_server_78 : decode cX3_server 78 = .ok (.getfield 10, 3) := by decide +kernel
theorem dX3_server_81 : decode cX3_server 81 = .ok (.invokevirtual 43, 3) := by decide +kernel
theorem dX3_server_84 : decode cX3_server 84 = .ok (.bipush 8, 2) := by decide +kernel
theorem dX3_server_86 : decode cX3_server 86 = .ok (.if_icmp .lt 10, 3) := by decide +kernel
theorem dX3_server_89 : decode cX3_server 89 = .ok (.aload_n 0, 1) := by decide +kernel
theorem dX3_server_90 : decode cX3_server 90 = .ok (.bipush (-6), 2) := by decide +kernel
theorem dX3_server_92 : decode cX3_server 92 = .ok (.invokevirtual 39, 3) := by decide +kernel
theorem dX3_server_95 : decode cX3_server 95 = .ok (.ireturn, 1) := by decide +kernel
theorem dX3_server_96 : decode cX3_server 96 = .ok (.new 47, 3) := by decide +kernel
theorem dX3_server_99 : decode cX3_server 99 = .ok (.dup, 1) := by decide +kernel
theorem dX3_server_100 : decode cX3_server 100 = .ok (.aload_n 0, 1) := by decide +kernel
theorem dX3_server_101 : decode cX3_server 101 = .ok (.getfield 10, 3) := by decide +kernel
theorem dX3_server_104 : decode cX3_server 104 = .ok (.invokevirtual 43, 3) := by decide +kernel
theorem dX3_server_107 : decode cX3_server 107 = .ok (.iload_n 1, 1) := by decide +kernel
theorem dX3_server_108 : decode cX3_server 108 = .ok (.iload_n 2, 1) := by decide +kernel
theorem dX3_server_109 : decode cX3_server 109 = .ok (.iload_n 3, 1) := by decide +kernel
theorem dX3_server_110 : decode cX3_server 110 = .ok (.iload 4, 2) := by decide +kernel
theorem dX3_server_112 : decode cX3_server 112 = .ok (.iload 5, 2) := by decide +kernel
theorem dX3_server_114 : decode cX3_server 114 = .ok (.invokespecial 49, 3) := by decide +kernel
theorem dX3_server_117 : decode cX3_server 117 = .ok (.astore 6, 2) := by decide +kernel
theorem dX3_server_119 : decode cX3_server 119 = .ok (.aload_n 0, 1) := by decide +kernel
theorem dX3_server_120 : decode cX3_server 120 = .ok (.getfield 10, 3) := by decide +kernel
theorem dX3_server_123 : decode cX3_server 123 = .ok (.aload 6, 2) := by decide +kernel
theorem dX3_server_125 : decode cX3_server 125 = .ok (.invokevirtual 52, 3) := by decide +kernel
theorem dX3_server_128 : decode cX3_server 128 = .ok (.pop, 1) := by decide +kernel
theorem dX3_server_129 : decode cX3_server 129 = .ok (.aload 6, 2) := by decide +kernel
theorem dX3_server_131 : decode cX3_server 131 = .ok (.getfield 56, 3) := by decide +kernel
theorem dX3_server_134 : decode cX3_server 134 = .ok (.ireturn, 1) := by decide +kernel
set_option maxRecDepth 20000 in
theorem ggX3_askByRule_X3_chosen : GoodIn wsX3_askByRule wsX3_chosen := goodIn_r _ [9, 3, 10, 11, 12, 8, 13, 14, 15, 16, 17, 18, 19, 20, 21, 22, 23, 24, 25, 26, 27, 28, 29, 30, 31, 32, 33, 34, 35, 36, 37, 38, 39, 40, 41, 42, 43, 44, 45, 46, 47, 48, 49, 50, 51, 52, 53, 54, 55, 56, 57, 58, 59, 60, 61, 62, 63, 64, 65, 66, 67, 68, 69, 70, 71, 72, 73, 74, 123, 124, 125, 126, 127, 128, 129, 130, 131, 132, 133, 134, 135, 136, 137, 138, 139, 140, 141, 142, 143, 144, 145, 146, 147, 148, 149, 150, 151, 152, 153, 154, 155] (by decide +kernel) (by decide +kernel)
set_option maxRecDepth 20000 in
theorem gX3_askByRule_X3_chosen : GoodIn wsX3_askByRule (wsV RX3 140 RX3 yX3_chosen wsX3_chosen) := goodIn_app (goodIn_of _ (by decide +kernel)) ggX3_askByRule_X3_chosen
set_option maxRecDepth 20000 in
theorem ggX3_askByRule_X3_settleCredits : GoodIn wsX3_askByRule wsX3_settleCredits := goodIn_r _ [78, 14, 15, 16, 17, 18, 19, 20, 21, 22, 23, 24, 25, 26, 27, 28, 29, 30, 31, 32, 33, 34, 35, 36, 37, 38, 39, 40, 41, 42, 43, 44, 45, 46, 47, 48, 49, 123, 124, 125, 126, 127, 128, 129, 130, 131, 132, 133, 134, 135, 136, 137, 138, 139, 140, 141, 142, 143, 144, 145, 146, 147, 148, 149, 150, 151, 152, 153, 154, 155] (by decide +kernel) (by decide +kernel)
set_option maxRecDepth 20000 in
theorem gX3_askByRule_X3_settleCredits : GoodIn wsX3_askByRule (wsV RX3 205 RX3 yX3_settleCredits wsX3_settleCredits) := goodIn_app (goodIn_of _ (by decide +kernel)) ggX3_askByRule_X3_settleCredits
set_option maxRecDepth 20000 in
theorem ggX3_askByRule_X2_takeAsking : GoodIn wsX3_askByRule wsX2_takeAsking := goodIn_r _ [82, 83, 47, 84, 85, 86, 87, 88, 89, 90, 91, 92, 93, 94, 95, 96, 97, 98, 99, 136, 137, 138, 139, 140, 141, 142, 143, 144, 145, 146, 147, 148, 149, 150, 151, 152, 156, 157, 158, 159] (by decide +kernel) (by decide +kernel)
set_option maxRecDepth 20000 in
theorem gX3_askByRule_X2_takeAsking : GoodIn wsX3_askByRule (wsV RX3 209 RX2 yX2_takeAsking wsX2_takeAsking) := goodIn_app (goodIn_of _ (by decide +kernel)) ggX3_askByRule_X2_takeAsking
set_option maxRecDepth 20000 in
theorem ggX3_askByRule_X1_begin : GoodIn wsX3_askByRule wsX1_begin := goodIn_r _ [104, 105, 106, 107, 108, 109, 110, 111, 112, 113, 114, 115, 116, 117, 118, 119, 120, 121, 122, 156, 157, 158, 159, 136, 137, 138, 139, 140, 141, 142, 143, 144, 145, 146, 147, 148, 149, 150, 151, 152] (by decide +kernel) (by decide +kernel)
set_option maxRecDepth 20000 in
theorem gX3_askByRule_X1_begin : GoodIn wsX3_askByRule (wsV RX3 213 RX1 yX1_begin wsX1_begin) := goodIn_app (goodIn_of _ (by decide +kernel)) ggX3_askByRule_X1_begin
theorem dX3_askByRule_0 : decode cX3_askByRule 0 = .ok (.aload_n 0, 1) := by decide +kernel
theorem dX3_askByRule_1 : decode cX3_askByRule 1 = .ok (.aload_n 1, 1) := by decide +kernel
theorem dX3_askByRule_2 : decode cX3_askByRule 2 = .ok (.getfield 199, 3) := by decide +kernel
theorem dX3_askByRule_5 : decode cX3_askByRule 5 = .ok (.aload_n 1, 1) := by decide +kernel
theorem dX3_askByRule_6 : decode cX3_askByRule 6 = .ok (.getfield 202, 3) := by decide +kernel
theorem dX3_askByRule_9 : decode cX3_askByRule 9 = .ok (.invokevirtual 140, 3) := by decide +kernel
theorem dX3_askByRule_12 : decode cX3_askByRule 12 = .ok (.astore_n 2, 1) := by decide +kernel
theorem dX3_askByRule_13 : decode cX3_askByRule 13 = .ok (.aload_n 2, 1) := by decide +kernel
theorem dX3_askByRule_14 : decode cX3_askByRule 14 = .ok (.ifnonnull 5, 3) := by decide +kernel
theorem dX3_askByRule_17 : decode cX3_askByRule 17 = .ok (.iconst 0, 1) := by decide +kernel
theorem dX3_askByRule_18 : decode cX3_askByRule 18 = .ok (.ireturn, 1) := by decide +kernel
theorem dX3_askByRule_19 : decode cX3_askByRule 19 = .ok (.aload_n 0, 1) := by decide +kernel
theorem dX3_askByRule_20 : decode cX3_askByRule 20 = .ok (.getfield 29, 3) := by decide +kernel
theorem dX3_askByRule_23 : decode cX3_askByRule 23 = .ok (.ifCond .ne 12, 3) := by decide +kernel
theorem dX3_askByRule_26 : decode cX3_askByRule 26 = .ok (.aload_n 0, 1) := by decide +kernel
theorem dX3_askByRule_27 : decode cX3_askByRule 27 = .ok (.aload_n 1, 1) := by decide +kernel
theorem dX3_askByRule_28 : decode cX3_askByRule 28 = .ok (.getfield 202, 3) := by decide +kernel
theorem dX3_askByRule_31 : decode cX3_askByRule 31 = .ok (.aload_n 2, 1) := by decide +kernel
theorem dX3_askByRule_32 : decode cX3_askByRule 32 = .ok (.invokevirtual 205, 3) := by decide +kernel
theorem dX3_askByRule_35 : decode cX3_askByRule 35 = .ok (.aload_n 1, 1) := by decide +kernel
theorem dX3_askByRule_36 : decode cX3_askByRule 36 = .ok (.aload_n 2, 1) := by decide +kernel
theorem dX3_askByRule_37 : decode cX3_askByRule 37 = .ok (.aload_n 0, 1) := by decide +kernel
theorem dX3_askByRule_38 : decode cX3_askByRule 38 = .ok (.getfield 95, 3) := by decide +kernel
theorem dX3_askByRule_41 : decode cX3_askByRule 41 = .ok (.invokevirtual 209, 3) := by decide +kernel
theorem dX3_askByRule_44 : decode cX3_askByRule 44 = .ok (.invokevirtual 213, 3) := by decide +kernel
theorem dX3_askByRule_47 : decode cX3_askByRule 47 = .ok (.iconst 1, 1) := by decide +kernel
theorem dX3_askByRule_48 : decode cX3_askByRule 48 = .ok (.ireturn, 1) := by decide +kernel
set_option maxRecDepth 20000 in
theorem ggX3_joinLine_Jx4a65c_size_8abf5 : GoodIn wsX3_joinLine wsJx4a65c_size_8abf5 := goodIn_r _ [8, 9, 114, 115, 116] (by decide +kernel) (by decide +kernel)
set_option maxRecDepth 20000 in
theorem gX3_joinLine_Jx4a65c_size_8abf5 : GoodIn wsX3_joinLine (wsV RX3 43 RJx4a65c yJx4a65c_size_8abf5 wsJx4a65c_size_8abf5) := goodIn_app (goodIn_of _ (by decide +kernel)) ggX3_joinLine_Jx4a65c_size_8abf5
set_option maxRecDepth 20000 in
theorem ggX3_joinLine_Jx4a65c_get_915e3 : GoodIn wsX3_joinLine wsJx4a65c_get_915e3 := goodIn_r _ [13, 9, 14, 15, 16, 17, 18, 19, 20, 21, 22, 23, 24, 7, 25, 26, 114, 115, 116] (by decide +kernel) (by decide +kernel)
set_option maxRecDepth 20000 in
theorem gX3_joinLine_Jx4a65c_get_915e3 : GoodIn wsX3_joinLine (wsV RX3 151 RJx4a65c yJx4a65c_get_915e3 wsJx4a65c_get_915e3) := goodIn_app (goodIn_of _ (by decide +kernel)) ggX3_joinLine_Jx4a65c_get_915e3
set_option maxRecDepth 20000 in
theorem ggX3_joinLine_X1_goesAheadOf : GoodIn wsX3_joinLine wsX1_goesAheadOf := goodIn_r _ [31, 32, 33, 34, 89, 90, 91, 92, 93, 94, 95, 96, 97, 98, 99, 100] (by decide +kernel) (by decide +kernel)
set_option maxRecDepth 20000 in
theorem gX3_joinLine_X1_goesAheadOf : GoodIn wsX3_joinLine (wsV RX3 217 RX1 yX1_goesAheadOf wsX1_goesAheadOf) := goodIn_app (goodIn_of _ (by decide +kernel)) ggX3_joinLine_X1_goesAheadOf
set_option maxRecDepth 20000 in
theorem ggX3_joinLine_Jx4a65c_add_7a177 : GoodIn wsX3_joinLine wsJx4a65c_add_7a177 := goodIn_r _ [38, 39, 40, 9, 26, 41, 42, 43, 44, 45, 46, 47, 7, 48, 49, 50, 51, 52, 53, 54, 55, 56, 57, 58, 59, 60, 61, 62, 63, 64, 65, 66, 67, 68, 69, 70, 71, 72, 73, 74, 75, 76, 77, 78, 79, 80, 81, 82, 83, 84, 85, 86, 87, 88, 114, 115, 116] (by decide +kernel) (by decide +kernel)
set_option maxRecDepth 20000 in
theorem gX3_joinLine_Jx4a65c_add_7a177 : GoodIn wsX3_joinLine (wsV RX3 220 RJx4a65c yJx4a65c_add_7a177 wsJx4a65c_add_7a177) := goodIn_app (goodIn_of _ (by decide +kernel)) ggX3_joinLine_Jx4a65c_add_7a177
theorem dX3_joinLine_0 : decode cX3_joinLine 0 = .ok (.aload_n 1, 1) := by decide +kernel
theorem dX3_joinLine_1 : decode cX3_joinLine 1 = .ok (.iconst 0, 1) := by decide +kernel
theorem dX3_joinLine_2 : decode cX3_joinLine 2 = .ok (.putfield 118, 3) := by decide +kernel
theorem dX3_joinLine_5 : decode cX3_joinLine 5 = .ok (.iconst 0, 1) := by decide +kernel
theorem dX3_joinLine_6 : decode cX3_joinLine 6 = .ok (.istore_n 2, 1) := by decide +kernel
theorem dX3_joinLine_7 : decode cX3_joinLine 7 = .ok (.iload_n 2, 1) := by decide +kernel
theorem dX3_joinLine_8 : decode cX3_joinLine 8 = .ok (.aload_n 0, 1) := by decide +kernel
theorem dX3_joinLine_9 : decode cX3_joinLine 9 = .ok (.getfield 22, 3) := by decide +kernel
theorem dX3_joinLine_12 : decode cX3_joinLine 12 = .ok (.invokevirtual 43, 3) := by decide +kernel
theorem dX3_joinLine_15 : decode cX3_joinLine 15 = .ok (.if_icmp .ge 27, 3) := by decide +kernel
theorem dX3_joinLine_18 : decode cX3_joinLine 18 = .ok (.aload_n 0, 1) := by decide +kernel
theorem dX3_joinLine_19 : decode cX3_joinLine 19 = .ok (.getfield 22, 3) := by decide +kernel
theorem dX3_joinLine_22 : decode cX3_joinLine 22 = .ok (.iload_n 2, 1) := by decide +kernel
theorem dX3_joinLine_23 : decode cX3_joinLine 23 = .ok (.invokevirtual 151, 3) := by decide +kernel
theorem dX3_joinLine_26 : decode cX3_joinLine 26 = .ok (.checkcast 93, 3) := by decide +kernel
theorem dX3_joinLine_29 : decode cX3_joinLine 29 = .ok (.aload_n 1, 1) := by decide +kernel
theorem dX3_joinLine_30 : decode cX3_joinLine 30 = .ok (.invokevirtual 217, 3) := by decide +kernel
theorem dX3_joinLine_33 : decode cX3_joinLine 33 = .ok (.ifCond .eq 9, 3) := by decide +kernel
theorem dX3_joinLine_36 : decode cX3_joinLine 36 = .ok (.iinc 2 1, 3) := by decide +kernel
theorem dX3_joinLine_39 : decode cX3_joinLine 39 = .ok (.goto (-32), 3) := by decide +kernel
theorem dX3_joinLine_42 : decode cX3_joinLine 42 = .ok (.aload_n 0, 1) := by decide +kernel
theorem dX3_joinLine_43 : decode cX3_joinLine 43 = .ok (.getfield 22, 3) := by decide +kernel
theorem dX3_joinLine_46 : decode cX3_joinLine 46 = .ok (.iload_n 2, 1) := by decide +kernel
theorem dX3_joinLine_47 : decode cX3_joinLine 47 = .ok (.aload_n 1, 1) := by decide +kernel
theorem dX3_joinLine_48 : decode cX3_joinLine 48 = .ok (.invokevirtual 220, 3) := by decide +kernel
theorem dX3_joinLine_51 : decode cX3_joinLine 51 = .ok (.return_, 1) := by decide +kernel
set_option maxRecDepth 20000 in
theorem ggX3_call_X3_refuse : GoodIn wsX3_call wsX3_refuse := goodIn_r _ [13, 14, 208, 209, 210, 211, 212, 213, 214, 215, 216, 217, 218, 219, 220] (by decide +kernel) (by decide +kernel)
set_option maxRecDepth 20000 in
theorem gX3_call_X3_refuse : GoodIn wsX3_call (wsV RX3 39 RX3 yX3_refuse wsX3_refuse) := goodIn_app (goodIn_of _ (by decide +kernel)) ggX3_call_X3_refuse
set_option maxRecDepth 20000 in
theorem ggX3_call_Jx4a65c_size_8abf5 : GoodIn wsX3_call wsJx4a65c_size_8abf5 := goodIn_r _ [19, 20, 233, 234, 235] (by decide +kernel) (by decide +kernel)
set_option maxRecDepth 20000 in
theorem gX3_call_Jx4a65c_size_8abf5 : GoodIn wsX3_call (wsV RX3 43 RJx4a65c yJx4a65c_size_8abf5 wsJx4a65c_size_8abf5) := goodIn_app (goodIn_of _ (by decide +kernel)) ggX3_call_Jx4a65c_size_8abf5
set_option maxRecDepth 20000 in
theorem ggX3_call_X1_init : GoodIn wsX3_call wsX1_init := goodIn_r _ [23, 24, 25, 26, 27, 28, 29, 30, 31, 32, 33, 34, 35, 221, 222, 223, 224, 225, 226, 227, 228, 229, 230, 231, 232] (by decide +kernel) (by decide +kernel)
set_option maxRecDepth 20000 in
theorem gX3_call_X1_init : GoodIn wsX3_call (wsX1_init) := ggX3_call_X1_init
set_option maxRecDepth 20000 in
theorem ggX3_call_Jx4a65c_add_9ea2d : GoodIn wsX3_call wsJx4a65c_add_9ea2d := goodIn_r _ [39, 40, 41, 42, 20, 43, 44, 45, 18, 46, 47, 48, 49, 50, 51, 52, 53, 54, 55, 56, 57, 58, 59, 60, 61, 62, 63, 64, 65, 66, 67, 68, 69, 70, 71, 72, 73, 74, 75, 76, 77, 78, 79, 80, 81, 82, 83, 84, 85, 86, 87, 88, 89, 233, 234, 235] (by decide +kernel) (by decide +kernel)
set_option maxRecDepth 20000 in
theorem gX3_call_Jx4a65c_add_9ea2d : GoodIn wsX3_call (wsV RX3 52 RJx4a65c yJx4a65c_add_9ea2d wsJx4a65c_add_9ea2d) := goodIn_app (goodIn_of _ (by decide +kernel)) ggX3_call_Jx4a65c_add_9ea2d
set_option maxRecDepth 20000 in
theorem ggX3_call_X3_askByRule : GoodIn wsX3_call wsX3_askByRule := goodIn_r _ [93, 94, 95, 96, 6, 97, 98, 99, 12, 100, 101, 102, 103, 104, 105, 106, 107, 108, 15, 16, 17, 18, 19, 20, 109, 110, 111, 112, 113, 114, 115, 116, 117, 118, 119, 120, 121, 122, 123, 124, 42, 125, 126, 127, 128, 129, 130, 131, 132, 133, 134, 135, 136, 137, 138, 139, 140, 141, 142, 143, 144, 84, 58, 85, 145, 146, 147, 148, 149, 150, 151, 152, 153, 154, 155, 156, 157, 158, 159, 160, 161, 162, 163, 164, 165, 166, 167, 168, 169, 170, 171, 172, 173, 174, 25, 26, 175, 176, 177, 178, 179, 180, 181, 5, 182, 183, 184, 185, 186, 187, 33, 221, 222, 223, 224, 225, 226, 227, 228, 229, 230, 231, 232, 208, 209, 210, 211, 212, 213, 214, 215, 216, 217, 218, 219, 220, 236, 237, 238, 239, 240, 241, 242, 243, 244, 245, 246, 247, 248, 249, 250, 251, 252, 233, 234, 235, 253, 254, 255, 256] (by decide +kernel) (by decide +kernel)
set_option maxRecDepth 20000 in
theorem gX3_call_X3_askByRule : GoodIn wsX3_call (wsV RX3 101 RX3 yX3_askByRule wsX3_askByRule) := goodIn_app (goodIn_of _ (by decide +kernel)) ggX3_call_X3_askByRule
set_option maxRecDepth 20000 in
theorem ggX3_call_X3_joinLine : GoodIn wsX3_call wsX3_joinLine := goodIn_r _ [191, 192, 193, 194, 15, 16, 17, 18, 19, 20, 109, 110, 111, 112, 113, 114, 115, 116, 117, 118, 119, 120, 121, 122, 123, 124, 42, 195, 196, 197, 5, 198, 29, 31, 27, 199, 200, 201, 202, 40, 41, 203, 87, 88, 89, 204, 205, 206, 207, 47, 48, 49, 50, 51, 52, 53, 54, 55, 56, 57, 58, 59, 60, 61, 62, 63, 64, 65, 66, 67, 68, 69, 70, 71, 72, 73, 74, 75, 76, 77, 78, 79, 80, 81, 82, 83, 84, 85, 86, 221, 222, 223, 224, 225, 226, 227, 228, 229, 230, 231, 232, 208, 209, 210, 211, 212, 213, 214, 215, 216, 217, 218, 219, 220, 233, 234, 235] (by decide +kernel) (by decide +kernel)
set_option maxRecDepth 20000 in
theorem gX3_call_X3_joinLine : GoodIn wsX3_call (wsV RX3 105 RX3 yX3_joinLine wsX3_joinLine) := goodIn_app (goodIn_of _ (by decide +kernel)) ggX3_call_X3_joinLine
theorem dX3_call_0 : decode cX3_call 0 = .ok (.iload_n 1, 1) := by decide +kernel
theorem dX3_call_1 : decode cX3_call 1 = .ok (.ifCond .lt 12, 3) := by decide +kernel
theorem dX3_call_4 : decode cX3_call 4 = .ok (.iload_n 2, 1) := by decide +kernel
theorem dX3_call_5 : decode cX3_call 5 = .ok (.ifCond .lt 8, 3) := by decide +kernel
theorem dX3_call_8 : decode cX3_call 8 = .ok (.iload_n 3, 1) := by decide +kernel
theorem dX3_call_9 : decode cX3_call 9 = .ok (.iconst 1, 1) := by decide +kernel
theorem dX3_call_10 : decode cX3_call 10 = .ok (.if_icmp .ge 10, 3) := by decide +kernel
theorem dX3_call_13 : decode cX3_call 13 = .ok (.aload_n 0, 1) := by decide +kernel
theorem dX3_call_14 : decode cX3_call 14 = .ok (.bipush (-4), 2) := by decide +kernel
theorem dX3_call_16 : decode cX3_call 16 = .ok (.invokevirtual 39, 3) := by decide +kernel
theorem dX3_call_19 : decode cX3_call 19 = .ok (.ireturn, 1) := by decide +kernel
theorem dX3_call_20 : decode cX3_call 20 = .ok (.iload_n 1, 1) := by decide +kernel
theorem dX3_call_21 : decode cX3_call 21 = .ok (.ldc 92, 2) := by decide +kernel
theorem dX3_call_23 : decode cX3_call 23 = .ok (.if_icmp .gt 28, 3) := by decide +kernel
theorem dX3_call_26 : decode cX3_call 26 = .ok (.iload_n 2, 1) := by decide +kernel
theorem dX3_call_27 : decode cX3_call 27 = .ok (.iconst 3, 1) := by decide +kernel
theorem dX3_call_28 : decode cX3_call 28 = .ok (.if_icmp .gt 23, 3) := by decide +kernel
theorem dX3_call_31 : decode cX3_call 31 = .ok (.iload_n 3, 1) := by decide +kernel
theorem dX3_call_32 : decode cX3_call 32 = .ok (.sipush 2000, 3) := by decide +kernel
theorem dX3_call_35 : decode cX3_call 35 = .ok (.if_icmp .gt 16, 3) := by decide +kernel
theorem dX3_call_38 : decode cX3_call 38 = .ok (.aload_n 0, 1) := by decide +kernel
theorem dX3_call_39 : decode cX3_call 39 = .ok (.getfield 16, 3) := by decide +kernel
theorem dX3_call_42 : decode cX3_call 42 = .ok (.invokevirtual 43, 3) := by decide +kernel
theorem dX3_call_45 : decode cX3_call 45 = .ok (.sipush 200, 3) := by decide +kernel
theorem dX3_call_48 : decode cX3_call 48 = .ok (.if_icmp .lt 10, 3) := by decide +kernel
theorem dX3_call_51 : decode cX3_call 51 = .ok (.aload_n 0, 1) := by decide +kernel
theorem dX3_call_52 : decode cX3_call 52 = .ok (.bipush (-6), 2) := by decide +kernel
theorem dX3_call_54 : decode cX3_call 54 = .ok (.invokevirtual 39, 3) := by decide +kernel
theorem dX3_call_57 : decode cX3_call 57 = .ok (.ireturn, 1) := by decide +kernel
theorem dX3_call_58 : decode cX3_call 58 = .ok (.new 93, 3) := by decide +kernel
theorem dX3_call_61 : decode cX3_call 61 = .ok (.dup, 1) := by decide +kernel
theorem dX3_call_62 : decode cX3_call 62 = .ok (.aload_n 0, 1) := by decide +kernel
theorem dX3_call_63 : decode cX3_call 63 = .ok (.getfield 16, 3) := by decide +kernel
theorem dX3_call_66 : decode cX3_call 66 = .ok (.invokevirtual 43, 3) := by decide +kernel
theorem dX3_call_69 : decode cX3_call 69 = .ok (.iload_n 1, 1) := by decide +kernel
theorem dX3_call_70 : decode cX3_call 70 = .ok (.iload_n 2, 1) := by decide +kernel
theorem dX3_call_71 : decode cX3_call 71 = .ok (.aload_n 0, 1) := by decide +kernel
theorem dX3_call_72 : decode cX3_call 72 = .ok (.getfield 95, 3) := by decide +kernel
theorem dX3_call_75 : decode cX3_call 75 = .ok (.aload_n 0, 1) := by decide +kernel
theorem dX3_call_76 : decode cX3_call 76 = .ok (.getfield 95, 3) := by decide +kernel
theorem dX3_call_79 : decode cX3_call 79 = .ok (.iload_n 3, 1) := by decide +kernel
theorem dX3_call_80 : decode cX3_call 80 = .ok (.iadd, 1) := by decide +kernel
theorem dX3_call_81 : decode cX3_call 81 = .ok (.iload 4, 2) := by decide +kernel
theorem dX3_call_83 : decode cX3_call 83 = .ok (.invokespecial 98, 3) := by decide +kernel
theorem dX3_call_86 : decode cX3_call 86 = .ok (.astore 5, 2) := by decide +kernel
theorem dX3_call_88 : decode cX3_call 88 = .ok (.aload_n 0, 1) := by decide +kernel
theorem dX3_call_89 : decode cX3_call 89 = .ok (.getfield 16, 3) := by decide +kernel
theorem dX3_call_92 : decode cX3_call 92 = .ok (.aload 5, 2) := by decide +kernel
theorem dX3_call_94 : decode cX3_call 94 = .ok (.invokevirtual 52, 3) := by decide +kernel
theorem dX3_call_97 : decode cX3_call 97 = .ok (.pop, 1) := by decide +kernel
theorem dX3_call_98 : decode cX3_call 98 = .ok (.aload_n 0, 1) := by decide +kernel
theorem dX3_call_99 : decode cX3_call 99 = .ok (.getfield 19, 3) := by decide +kernel
theorem dX3_call_102 : decode cX3_call 102 = .ok (.aload 5, 2) := by decide +kernel
theorem dX3_call_104 : decode cX3_call 104 = .ok (.invokevirtual 52, 3) := by decide +kernel
theorem dX3_call_107 : decode cX3_call 107 = .ok (.pop, 1) := by decide +kernel
theorem dX3_call_108 : decode cX3_call 108 = .ok (.aload_n 0, 1) := by decide +kernel
theorem dX3_call_109 : decode cX3_call 109 = .ok (.aload 5, 2) := by decide +kernel
theorem dX3_call_111 : decode cX3_call 111 = .ok (.invokevirtual 101, 3) := by decide +kernel
theorem dX3_call_114 : decode cX3_call 114 = .ok (.ifCond .ne 9, 3) := by decide +kernel
theorem dX3_call_117 : decode cX3_call 117 = .ok (.aload_n 0, 1) := by decide +kernel
theorem dX3_call_118 : decode cX3_call 118 = .ok (.aload 5, 2) := by decide +kernel
theorem dX3_call_120 : decode cX3_call 120 = .ok (.invokevirtual 105, 3) := by decide +kernel
theorem dX3_call_123 : decode cX3_call 123 = .ok (.aload 5, 2) := by decide +kernel
theorem dX3_call_125 : decode cX3_call 125 = .ok (.getfield 109, 3) := by decide +kernel
theorem dX3_call_128 : decode cX3_call 128 = .ok (.ireturn, 1) := by decide +kernel
set_option maxRecDepth 20000 in
theorem ggX3_takeWhatIsOver_Jx4a65c_size_8abf5 : GoodIn wsX3_takeWhatIsOver wsJx4a65c_size_8abf5 := goodIn_r _ [12, 13, 194, 195, 196] (by decide +kernel) (by decide +kernel)
set_option maxRecDepth 20000 in
theorem gX3_takeWhatIsOver_Jx4a65c_size_8abf5 : GoodIn wsX3_takeWhatIsOver (wsV RX3 43 RJx4a65c yJx4a65c_size_8abf5 wsJx4a65c_size_8abf5) := goodIn_app (goodIn_of _ (by decide +kernel)) ggX3_takeWhatIsOver_Jx4a65c_size_8abf5
set_option maxRecDepth 20000 in
theorem ggX3_takeWhatIsOver_Jx4a65c_get_915e3 : GoodIn wsX3_takeWhatIsOver wsJx4a65c_get_915e3 := goodIn_r _ [17, 13, 18, 19, 20, 21, 22, 23, 24, 25, 26, 27, 28, 11, 29, 30, 194, 195, 196] (by decide +kernel) (by decide +kernel)
set_option maxRecDepth 20000 in
theorem gX3_takeWhatIsOver_Jx4a65c_get_915e3 : GoodIn wsX3_takeWhatIsOver (wsV RX3 151 RJx4a65c yJx4a65c_get_915e3 wsJx4a65c_get_915e3) := goodIn_app (goodIn_of _ (by decide +kernel)) ggX3_takeWhatIsOver_Jx4a65c_get_915e3
set_option maxRecDepth 20000 in
theorem ggX3_takeWhatIsOver_X3_takeAnswer : GoodIn wsX3_takeWhatIsOver wsX3_takeAnswer := goodIn_r _ [35, 36, 37, 38, 39, 3, 40, 6, 41, 42, 43, 44, 45, 46, 47, 48, 49, 50, 51, 52, 53, 54, 55, 56, 57, 58, 59, 60, 61, 62, 63, 64, 65, 66, 67, 34, 68, 7, 69, 70, 71, 72, 73, 74, 75, 76, 77, 78, 79, 80, 81, 82, 83, 84, 85, 8, 9, 10, 11, 12, 13, 14, 15, 16, 17, 18, 19, 20, 21, 22, 23, 24, 25, 26, 27, 28, 29, 30, 86, 87, 88, 89, 90, 91, 92, 93, 94, 95, 96, 97, 98, 99, 100, 101, 102, 103, 104, 105, 106, 2, 107, 108, 109, 110, 111, 112, 113, 114, 115, 116, 117, 118, 119, 120, 121, 122, 123, 124, 125, 126, 127, 128, 129, 130, 131, 132, 133, 134, 135, 136, 137, 138, 139, 140, 141, 142, 143, 144, 145, 146, 147, 148, 149, 150, 151, 152, 153, 154, 155, 156, 157, 158, 159, 160, 161, 162, 163, 164, 190, 191, 192, 193, 197, 198, 199, 200, 201, 202, 203, 204, 205, 206, 207, 208, 209, 210, 211, 212, 213, 178, 179, 180, 181, 182, 183, 184, 185, 186, 187, 188, 189, 165, 166, 167, 168, 169, 170, 171, 172, 173, 174, 175, 176, 177, 194, 195, 196] (by decide +kernel) (by decide +kernel)
set_option maxRecDepth 20000 in
theorem gX3_takeWhatIsOver_X3_takeAnswer : GoodIn wsX3_takeWhatIsOver (wsV RX3 259 RX3 yX3_takeAnswer wsX3_takeAnswer) := goodIn_app (goodIn_of _ (by decide +kernel)) ggX3_takeWhatIsOver_X3_takeAnswer
theorem dX3_takeWhatIsOver_0 : decode cX3_takeWhatIsOver 0 = .ok (.iconst 0, 1) := by decide +kernel
theorem dX3_takeWhatIsOver_1 : decode cX3_takeWhatIsOver 1 = .ok (.istore_n 1, 1) := by decide +kernel
theorem dX3_takeWhatIsOver_2 : decode cX3_takeWhatIsOver 2 = .ok (.iload_n 1, 1) := by decide +kernel
theorem dX3_takeWhatIsOver_3 : decode cX3_takeWhatIsOver 3 = .ok (.aload_n 0, 1) := by decide +kernel
theorem dX3_takeWhatIsOver_4 : decode cX3_takeWhatIsOver 4 = .ok (.getfield 19, 3) := by decide +kernel
theorem dX3_takeWhatIsOver_7 : decode cX3_takeWhatIsOver 7 = .ok (.invokevirtual 43, 3) := by decide +kernel
theorem dX3_takeWhatIsOver_10 : decode cX3_takeWhatIsOver 10 = .ok (.if_icmp .ge 85, 3) := by decide +kernel
theorem dX3_takeWhatIsOver_13 : decode cX3_takeWhatIsOver 13 = .ok (.aload_n 0, 1) := by decide +kernel
theorem dX3_takeWhatIsOver_14 : decode cX3_takeWhatIsOver 14 = .ok (.getfield 19, 3) := by decide +kernel
theorem dX3_takeWhatIsOver_17 : decode cX3_takeWhatIsOver 17 = .ok (.iload_n 1, 1) := by decide +kernel
theorem dX3_takeWhatIsOver_18 : decode cX3_takeWhatIsOver 18 = .ok (.invokevirtual 151, 3) := by decide +kernel
theorem dX3_takeWhatIsOver_21 : decode cX3_takeWhatIsOver 21 = .ok (.checkcast 93, 3) := by decide +kernel
theorem dX3_takeWhatIsOver_24 : decode cX3_takeWhatIsOver 24 = .ok (.astore_n 2, 1) := by decide +kernel
theorem dX3_takeWhatIsOver_25 : decode cX3_takeWhatIsOver 25 = .ok (.aload_n 2, 1) := by decide +kernel
theorem dX3_takeWhatIsOver_26 : decode cX3_takeWhatIsOver 26 = .ok (.getfield 247, 3) := by decide +kernel
theorem dX3_takeWhatIsOver_29 : decode cX3_takeWhatIsOver 29 = .ok (.astore_n 3, 1) := by decide +kernel
theorem dX3_takeWhatIsOver_30 : decode cX3_takeWhatIsOver 30 = .ok (.aload_n 2, 1) := by decide +kernel
theorem dX3_takeWhatIsOver_31 : decode cX3_takeWhatIsOver 31 = .ok (.getfield 251, 3) := by decide +kernel
theorem dX3_takeWhatIsOver_34 : decode cX3_takeWhatIsOver 34 = .ok (.astore 4, 2) := by decide +kernel
theorem dX3_takeWhatIsOver_36 : decode cX3_takeWhatIsOver 36 = .ok (.aload_n 3, 1) := by decide +kernel
theorem dX3_takeWhatIsOver_37 : decode cX3_takeWhatIsOver 37 = .ok (.ifnull 20, 3) := by decide +kernel
theorem dX3_takeWhatIsOver_40 : decode cX3_takeWhatIsOver 40 = .ok (.aload_n 3, 1) := by decide +kernel
theorem dX3_takeWhatIsOver_41 : decode cX3_takeWhatIsOver 41 = .ok (.getfield 254, 3) := by decide +kernel
theorem dX3_takeWhatIsOver_44 : decode cX3_takeWhatIsOver 44 = .ok (.aload_n 0, 1) := by decide +kernel
theorem dX3_takeWhatIsOver_45 : decode cX3_takeWhatIsOver 45 = .ok (.getfield 95, 3) := by decide +kernel
theorem dX3_takeWhatIsOver_48 : decode cX3_takeWhatIsOver 48 = .ok (.if_icmp .ne 9, 3) := by decide +kernel
theorem dX3_takeWhatIsOver_51 : decode cX3_takeWhatIsOver 51 = .ok (.aload_n 0, 1) := by decide +kernel
theorem dX3_takeWhatIsOver_52 : decode cX3_takeWhatIsOver 52 = .ok (.aload_n 2, 1) := by decide +kernel
theorem dX3_takeWhatIsOver_53 : decode cX3_takeWhatIsOver 53 = .ok (.aload_n 3, 1) := by decide +kernel
theorem dX3_takeWhatIsOver_54 : decode cX3_takeWhatIsOver 54 = .ok (.invokevirtual 259, 3) := by decide +kernel
theorem dX3_takeWhatIsOver_57 : decode cX3_takeWhatIsOver 57 = .ok (.aload 4, 2) := by decide +kernel
theorem dX3_takeWhatIsOver_59 : decode cX3_takeWhatIsOver 59 = .ok (.ifnull 30, 3) := by decide +kernel
theorem dX3_takeWhatIsOver_62 : decode cX3_takeWhatIsOver 62 = .ok (.aload 4, 2) := by decide +kernel
theorem dX3_takeWhatIsOver_64 : decode cX3_takeWhatIsOver 64 = .ok (.getfield 254, 3) := by decide +kernel
theorem dX3_takeWhatIsOver_67 : decode cX3_takeWhatIsOver 67 = .ok (.aload_n 0, 1) := by decide +kernel
theorem dX3_takeWhatIsOver_68 : decode cX3_takeWhatIsOver 68 = .ok (.getfield 95, 3) := by decide +kernel
theorem dX3_takeWhatIsOver_71 : decode cX3_takeWhatIsOver 71 = .ok (.if_icmp .ne 18, 3) := by decide +kernel
theorem dX3_takeWhatIsOver_74 : decode cX3_takeWhatIsOver 74 = .ok (.aload_n 2, 1) := by decide +kernel
theorem dX3_takeWhatIsOver_75 : decode cX3_takeWhatIsOver 75 = .ok (.getfield 118, 3) := by decide +kernel
theorem dX3_takeWhatIsOver_78 : decode cX3_takeWhatIsOver 78 = .ok (.iconst 1, 1) := by decide +kernel
theorem dX3_takeWhatIsOver_79 : decode cX3_takeWhatIsOver 79 = .ok (.if_icmp .ne 10, 3) := by decide +kernel
theorem dX3_takeWhatIsOver_82 : decode cX3_takeWhatIsOver 82 = .ok (.aload_n 0, 1) := by decide +kernel
theorem dX3_takeWhatIsOver_83 : decode cX3_takeWhatIsOver 83 = .ok (.aload_n 2, 1) := by decide +kernel
theorem dX3_takeWhatIsOver_84 : decode cX3_takeWhatIsOver 84 = .ok (.aload 4, 2) := by decide +kernel
theorem dX3_takeWhatIsOver_86 : decode cX3_takeWhatIsOver 86 = .ok (.invokevirtual 259, 3) := by decide +kernel
theorem dX3_takeWhatIsOver_89 : decode cX3_takeWhatIsOver 89 = .ok (.iinc 1 1, 3) := by decide +kernel
theorem dX3_takeWhatIsOver_92 : decode cX3_takeWhatIsOver 92 = .ok (.goto (-90), 3) := by decide +kernel
theorem dX3_takeWhatIsOver_95 : decode cX3_takeWhatIsOver 95 = .ok (.return_, 1) := by decide +kernel
set_option maxRecDepth 20000 in
theorem ggX3_meetDues_Jx4a65c_size_8abf5 : GoodIn wsX3_meetDues wsJx4a65c_size_8abf5 := goodIn_r _ [10, 11, 129, 130, 131] (by decide +kernel) (by decide +kernel)
set_option maxRecDepth 20000 in
theorem gX3_meetDues_Jx4a65c_size_8abf5 : GoodIn wsX3_meetDues (wsV RX3 43 RJx4a65c yJx4a65c_size_8abf5 wsJx4a65c_size_8abf5) := goodIn_app (goodIn_of _ (by decide +kernel)) ggX3_meetDues_Jx4a65c_size_8abf5
set_option maxRecDepth 20000 in
theorem ggX3_meetDues_Jx4a65c_get_915e3 : GoodIn wsX3_meetDues wsJx4a65c_get_915e3 := goodIn_r _ [15, 11, 16, 17, 18, 19, 20, 21, 22, 23, 24, 25, 26, 9, 27, 28, 129, 130, 131] (by decide +kernel) (by decide +kernel)
set_option maxRecDepth 20000 in
theorem gX3_meetDues_Jx4a65c_get_915e3 : GoodIn wsX3_meetDues (wsV RX3 151 RJx4a65c yJx4a65c_get_915e3 wsJx4a65c_get_915e3) := goodIn_app (goodIn_of _ (by decide +kernel)) ggX3_meetDues_Jx4a65c_get_915e3
set_option maxRecDepth 20000 in
theorem ggX3_meetDues_X3_failByDue : GoodIn wsX3_meetDues wsX3_failByDue := goodIn_r _ [33, 34, 35, 36, 37, 38, 39, 40, 41, 42, 43, 44, 45, 46, 47, 48, 49, 50, 51, 52, 32, 53, 54, 55, 56, 57, 4, 58, 59, 60, 61, 62, 63, 6, 7, 8, 9, 10, 11, 12, 13, 14, 15, 16, 17, 18, 19, 20, 21, 22, 23, 24, 25, 26, 27, 28, 64, 65, 66, 67, 68, 69, 70, 71, 72, 73, 74, 75, 76, 77, 78, 79, 80, 81, 5, 82, 83, 117, 118, 119, 120, 121, 122, 123, 124, 125, 126, 127, 128, 132, 133, 134, 135, 136, 137, 138, 139, 140, 141, 142, 143, 144, 145, 146, 147, 148, 149, 150, 151, 152, 104, 105, 106, 107, 108, 109, 110, 111, 112, 113, 114, 115, 116, 129, 130, 131] (by decide +kernel) (by decide +kernel)
set_option maxRecDepth 20000 in
theorem gX3_meetDues_X3_failByDue : GoodIn wsX3_meetDues (wsV RX3 303 RX3 yX3_failByDue wsX3_failByDue) := goodIn_app (goodIn_of _ (by decide +kernel)) ggX3_meetDues_X3_failByDue
set_option maxRecDepth 20000 in
theorem ggX3_meetDues_X3_leaveLine : GoodIn wsX3_meetDues wsX3_leaveLine := goodIn_r _ [87, 88, 2, 89, 6, 7, 8, 9, 10, 11, 12, 13, 14, 15, 16, 17, 18, 19, 20, 21, 22, 23, 24, 25, 26, 27, 28, 90, 91, 92, 93, 94, 95, 96, 97, 98, 99, 100, 101, 102, 103, 104, 105, 106, 107, 108, 109, 110, 111, 112, 113, 114, 115, 116, 117, 118, 119, 120, 121, 122, 123, 124, 125, 126, 127, 128, 129, 130, 131] (by decide +kernel) (by decide +kernel)
set_option maxRecDepth 20000 in
theorem gX3_meetDues_X3_leaveLine : GoodIn wsX3_meetDues (wsV RX3 121 RX3 yX3_leaveLine wsX3_leaveLine) := goodIn_app (goodIn_of _ (by decide +kernel)) ggX3_meetDues_X3_leaveLine
set_option maxRecDepth 20000 in
theorem ggX3_meetDues_X3_end : GoodIn wsX3_meetDues wsX3_end := goodIn_r _ [81, 5, 4, 82, 83, 117, 118, 119, 120, 121, 122, 123, 124, 125, 126, 127, 128, 104, 105, 106, 107, 108, 109, 110, 111, 112, 113, 114, 115, 116] (by decide +kernel) (by decide +kernel)
set_option maxRecDepth 20000 in
theorem gX3_meetDues_X3_end : GoodIn wsX3_meetDues (wsV RX3 127 RX3 yX3_end wsX3_end) := goodIn_app (goodIn_of _ (by decide +kernel)) ggX3_meetDues_X3_end
theorem dX3_meetDues_0 : decode cX3_meetDues 0 = .ok (.iconst 0, 1) := by decide +kernel
theorem dX3_meetDues_1 : decode cX3_meetDues 1 = .ok (.istore_n 1, 1) := by decide +kernel
theorem dX3_meetDues_2 : decode cX3_meetDues 2 = .ok (.iload_n 1, 1) := by decide +kernel
theorem dX3_meetDues_3 : decode cX3_meetDues 3 = .ok (.aload_n 0, 1) := by decide +kernel
theorem dX3_meetDues_4 : decode cX3_meetDues 4 = .ok (.getfield 19, 3) := by decide +kernel
theorem dX3_meetDues_7 : decode cX3_meetDues 7 = .ok (.invokevirtual 43, 3) := by decide +kernel
theorem dX3_meetDues_10 : decode cX3_meetDues 10 = .ok (.if_icmp .ge 69, 3) := by decide +kernel
theorem dX3_meetDues_13 : decode cX3_meetDues 13 = .ok (.aload_n 0, 1) := by decide +kernel
theorem dX3_meetDues_14 : decode cX3_meetDues 14 = .ok (.getfield 19, 3) := by decide +kernel
theorem dX3_meetDues_17 : decode cX3_meetDues 17 = .ok (.iload_n 1, 1) := by decide +kernel
theorem dX3_meetDues_18 : decode cX3_meetDues 18 = .ok (.invokevirtual 151, 3) := by decide +kernel
theorem dX3_meetDues_21 : decode cX3_meetDues 21 = .ok (.checkcast 93, 3) := by decide +kernel
theorem dX3_meetDues_24 : decode cX3_meetDues 24 = .ok (.astore_n 2, 1) := by decide +kernel
theorem dX3_meetDues_25 : decode cX3_meetDues 25 = .ok (.aload_n 2, 1) := by decide +kernel
theorem dX3_meetDues_26 : decode cX3_meetDues 26 = .ok (.getfield 287, 3) := by decide +kernel
theorem dX3_meetDues_29 : decode cX3_meetDues 29 = .ok (.aload_n 0, 1) := by decide +kernel
theorem dX3_meetDues_30 : decode cX3_meetDues 30 = .ok (.getfield 95, 3) := by decide +kernel
theorem dX3_meetDues_33 : decode cX3_meetDues 33 = .ok (.if_icmp .eq 6, 3) := by decide +kernel
theorem dX3_meetDues_36 : decode cX3_meetDues 36 = .ok (.goto 37, 3) := by decide +kernel
theorem dX3_meetDues_39 : decode cX3_meetDues 39 = .ok (.aload_n 2, 1) := by decide +kernel
theorem dX3_meetDues_40 : decode cX3_meetDues 40 = .ok (.getfield 118, 3) := by decide +kernel
theorem dX3_meetDues_43 : decode cX3_meetDues 43 = .ok (.iconst 1, 1) := by decide +kernel
theorem dX3_meetDues_44 : decode cX3_meetDues 44 = .ok (.if_icmp .ne 11, 3) := by decide +kernel
theorem dX3_meetDues_47 : decode cX3_meetDues 47 = .ok (.aload_n 0, 1) := by decide +kernel
theorem dX3_meetDues_48 : decode cX3_meetDues 48 = .ok (.aload_n 2, 1) := by decide +kernel
theorem dX3_meetDues_49 : decode cX3_meetDues 49 = .ok (.invokevirtual 303, 3) := by decide +kernel
theorem dX3_meetDues_52 : decode cX3_meetDues 52 = .ok (.goto 21, 3) := by decide +kernel
theorem dX3_meetDues_55 : decode cX3_meetDues 55 = .ok (.aload_n 2, 1) := by decide +kernel
theorem dX3_meetDues_56 : decode cX3_meetDues 56 = .ok (.getfield 118, 3) := by decide +kernel
theorem dX3_meetDues_59 : decode cX3_meetDues 59 = .ok (.ifCond .ne 14, 3) := by decide +kernel
theorem dX3_meetDues_62 : decode cX3_meetDues 62 = .ok (.aload_n 0, 1) := by decide +kernel
theorem dX3_meetDues_63 : decode cX3_meetDues 63 = .ok (.aload_n 2, 1) := by decide +kernel
theorem dX3_meetDues_64 : decode cX3_meetDues 64 = .ok (.invokevirtual 121, 3) := by decide +kernel
theorem dX3_meetDues_67 : decode cX3_meetDues 67 = .ok (.aload_n 0, 1) := by decide +kernel
theorem dX3_meetDues_68 : decode cX3_meetDues 68 = .ok (.aload_n 2, 1) := by decide +kernel
theorem dX3_meetDues_69 : decode cX3_meetDues 69 = .ok (.iconst 4, 1) := by decide +kernel
theorem dX3_meetDues_70 : decode cX3_meetDues 70 = .ok (.invokevirtual 127, 3) := by decide +kernel
theorem dX3_meetDues_73 : decode cX3_meetDues 73 = .ok (.iinc 1 1, 3) := by decide +kernel
theorem dX3_meetDues_76 : decode cX3_meetDues 76 = .ok (.goto (-74), 3) := by decide +kernel
theorem dX3_meetDues_79 : decode cX3_meetDues 79 = .ok (.return_, 1) := by decide +kernel
set_option maxRecDepth 20000 in
theorem ggX3_dropEnded_Jx4a65c_size_8abf5 : GoodIn wsX3_dropEnded wsJx4a65c_size_8abf5 := goodIn_r _ [7, 8, 59, 60, 61] (by decide +kernel) (by decide +kernel)
set_option maxRecDepth 20000 in
theorem gX3_dropEnded_Jx4a65c_size_8abf5 : GoodIn wsX3_dropEnded (wsV RX3 43 RJx4a65c yJx4a65c_size_8abf5 wsJx4a65c_size_8abf5) := goodIn_app (goodIn_of _ (by decide +kernel)) ggX3_dropEnded_Jx4a65c_size_8abf5
set_option maxRecDepth 20000 in
theorem ggX3_dropEnded_Jx4a65c_get_915e3 : GoodIn wsX3_dropEnded wsJx4a65c_get_915e3 := goodIn_r _ [12, 8, 13, 14, 15, 16, 17, 18, 19, 20, 21, 22, 23, 6, 24, 25, 59, 60, 61] (by decide +kernel) (by decide +kernel)
set_option maxRecDepth 20000 in
theorem gX3_dropEnded_Jx4a65c_get_915e3 : GoodIn wsX3_dropEnded (wsV RX3 151 RJx4a65c yJx4a65c_get_915e3 wsJx4a65c_get_915e3) := goodIn_app (goodIn_of _ (by decide +kernel)) ggX3_dropEnded_Jx4a65c_get_915e3
set_option maxRecDepth 20000 in
theorem ggX3_dropEnded_X1_hasEnded : GoodIn wsX3_dropEnded wsX1_hasEnded := goodIn_r _ [30, 31, 62, 63, 64, 65, 66, 67, 68, 69, 70, 71, 72, 73] (by decide +kernel) (by decide +kernel)
set_option maxRecDepth 20000 in
theorem gX3_dropEnded_X1_hasEnded : GoodIn wsX3_dropEnded (wsV RX3 114 RX1 yX1_hasEnded wsX1_hasEnded) := goodIn_app (goodIn_of _ (by decide +kernel)) ggX3_dropEnded_X1_hasEnded
set_option maxRecDepth 20000 in
theorem ggX3_dropEnded_Jx4a65c_remove_915e3 : GoodIn wsX3_dropEnded wsJx4a65c_remove_915e3 := goodIn_r _ [35, 8, 25, 13, 14, 15, 16, 17, 18, 19, 20, 36, 37, 38, 6, 39, 40, 41, 42, 43, 44, 45, 59, 60, 61] (by decide +kernel) (by decide +kernel)
set_option maxRecDepth 20000 in
theorem gX3_dropEnded_Jx4a65c_remove_915e3 : GoodIn wsX3_dropEnded (wsV RX3 223 RJx4a65c yJx4a65c_remove_915e3 wsJx4a65c_remove_915e3) := goodIn_app (goodIn_of _ (by decide +kernel)) ggX3_dropEnded_Jx4a65c_remove_915e3
theorem dX3_dropEnded_0 : decode cX3_dropEnded 0 = .ok (.aload_n 0, 1) := by decide +kernel
theorem dX3_dropEnded_1 : decode cX3_dropEnded 1 = .ok (.getfield 19, 3) := by decide +kernel
theorem dX3_dropEnded_4 : decode cX3_dropEnded 4 = .ok (.invokevirtual 43, 3) := by decide +kernel
theorem dX3_dropEnded_7 : decode cX3_dropEnded 7 = .ok (.iconst 1, 1) := by decide +kernel
theorem dX3_dropEnded_8 : decode cX3_dropEnded 8 = .ok (.isub, 1) := by decide +kernel
theorem dX3_dropEnded_9 : decode cX3_dropEnded 9 = .ok (.istore_n 1, 1) := by decide +kernel
theorem dX3_dropEnded_10 : decode cX3_dropEnded 10 = .ok (.iload_n 1, 1) := by decide +kernel
theorem dX3_dropEnded_11 : decode cX3_dropEnded 11 = .ok (.ifCond .lt 35, 3) := by decide +kernel
theorem dX3_dropEnded_14 : decode cX3_dropEnded 14 = .ok (.aload_n 0, 1) := by decide +kernel
theorem dX3_dropEnded_15 : decode cX3_dropEnded 15 = .ok (.getfield 19, 3) := by decide +kernel
theorem dX3_dropEnded_18 : decode cX3_dropEnded 18 = .ok (.iload_n 1, 1) := by decide +kernel
theorem dX3_dropEnded_19 : decode cX3_dropEnded 19 = .ok (.invokevirtual 151, 3) := by decide +kernel
theorem dX3_dropEnded_22 : decode cX3_dropEnded 22 = .ok (.checkcast 93, 3) := by decide +kernel
theorem dX3_dropEnded_25 : decode cX3_dropEnded 25 = .ok (.invokevirtual 114, 3) := by decide +kernel
theorem dX3_dropEnded_28 : decode cX3_dropEnded 28 = .ok (.ifCond .eq 12, 3) := by decide +kernel
theorem dX3_dropEnded_31 : decode cX3_dropEnded 31 = .ok (.aload_n 0, 1) := by decide +kernel
theorem dX3_dropEnded_32 : decode cX3_dropEnded 32 = .ok (.getfield 19, 3) := by decide +kernel
theorem dX3_dropEnded_35 : decode cX3_dropEnded 35 = .ok (.iload_n 1, 1) := by decide +kernel
theorem dX3_dropEnded_36 : decode cX3_dropEnded 36 = .ok (.invokevirtual 223, 3) := by decide +kernel
theorem dX3_dropEnded_39 : decode cX3_dropEnded 39 = .ok (.pop, 1) := by decide +kernel
theorem dX3_dropEnded_40 : decode cX3_dropEnded 40 = .ok (.iinc 1 (-1), 3) := by decide +kernel
theorem dX3_dropEnded_43 : decode cX3_dropEnded 43 = .ok (.goto (-33), 3) := by decide +kernel
theorem dX3_dropEnded_46 : decode cX3_dropEnded 46 = .ok (.return_, 1) := by decide +kernel
set_option maxRecDepth 20000 in
theorem ggX3_tryThoseOut_Jx4a65c_size_8abf5 : GoodIn wsX3_tryThoseOut wsJx4a65c_size_8abf5 := goodIn_r _ [10, 11, 59, 60, 61] (by decide +kernel) (by decide +kernel)
set_option maxRecDepth 20000 in
theorem gX3_tryThoseOut_Jx4a65c_size_8abf5 : GoodIn wsX3_tryThoseOut (wsV RX3 43 RJx4a65c yJx4a65c_size_8abf5 wsJx4a65c_size_8abf5) := goodIn_app (goodIn_of _ (by decide +kernel)) ggX3_tryThoseOut_Jx4a65c_size_8abf5
set_option maxRecDepth 20000 in
theorem ggX3_tryThoseOut_Jx4a65c_get_915e3 : GoodIn wsX3_tryThoseOut wsJx4a65c_get_915e3 := goodIn_r _ [15, 11, 16, 17, 18, 19, 20, 21, 22, 23, 24, 25, 26, 9, 27, 28, 59, 60, 61] (by decide +kernel) (by decide +kernel)
set_option maxRecDepth 20000 in
theorem gX3_tryThoseOut_Jx4a65c_get_915e3 : GoodIn wsX3_tryThoseOut (wsV RX3 151 RJx4a65c yJx4a65c_get_915e3 wsJx4a65c_get_915e3) := goodIn_app (goodIn_of _ (by decide +kernel)) ggX3_tryThoseOut_Jx4a65c_get_915e3
theorem dX3_tryThoseOut_0 : decode cX3_tryThoseOut 0 = .ok (.iconst 0, 1) := by decide +kernel
theorem dX3_tryThoseOut_1 : decode cX3_tryThoseOut 1 = .ok (.istore_n 1, 1) := by decide +kernel
theorem dX3_tryThoseOut_2 : decode cX3_tryThoseOut 2 = .ok (.iload_n 1, 1) := by decide +kernel
theorem dX3_tryThoseOut_3 : decode cX3_tryThoseOut 3 = .ok (.aload_n 0, 1) := by decide +kernel
theorem dX3_tryThoseOut_4 : decode cX3_tryThoseOut 4 = .ok (.getfield 10, 3) := by decide +kernel
theorem dX3_tryThoseOut_7 : decode cX3_tryThoseOut 7 = .ok (.invokevirtual 43, 3) := by decide +kernel
theorem dX3_tryThoseOut_10 : decode cX3_tryThoseOut 10 = .ok (.if_icmp .ge 45, 3) := by decide +kernel
theorem dX3_tryThoseOut_13 : decode cX3_tryThoseOut 13 = .ok (.aload_n 0, 1) := by decide +kernel
theorem dX3_tryThoseOut_14 : decode cX3_tryThoseOut 14 = .ok (.getfield 10, 3) := by decide +kernel
theorem dX3_tryThoseOut_17 : decode cX3_tryThoseOut 17 = .ok (.iload_n 1, 1) := by decide +kernel
theorem dX3_tryThoseOut_18 : decode cX3_tryThoseOut 18 = .ok (.invokevirtual 151, 3) := by decide +kernel
theorem dX3_tryThoseOut_21 : decode cX3_tryThoseOut 21 = .ok (.checkcast 47, 3) := by decide +kernel
theorem dX3_tryThoseOut_24 : decode cX3_tryThoseOut 24 = .ok (.astore_n 2, 1) := by decide +kernel
theorem dX3_tryThoseOut_25 : decode cX3_tryThoseOut 25 = .ok (.aload_n 2, 1) := by decide +kernel
theorem dX3_tryThoseOut_26 : decode cX3_tryThoseOut 26 = .ok (.getfield 63, 3) := by decide +kernel
theorem dX3_tryThoseOut_29 : decode cX3_tryThoseOut 29 = .ok (.iconst 1, 1) := by decide +kernel
theorem dX3_tryThoseOut_30 : decode cX3_tryThoseOut 30 = .ok (.if_icmp .ne 19, 3) := by decide +kernel
theorem dX3_tryThoseOut_33 : decode cX3_tryThoseOut 33 = .ok (.aload_n 2, 1) := by decide +kernel
theorem dX3_tryThoseOut_34 : decode cX3_tryThoseOut 34 = .ok (.getfield 306, 3) := by decide +kernel
theorem dX3_tryThoseOut_37 : decode cX3_tryThoseOut 37 = .ok (.aload_n 0, 1) := by decide +kernel
theorem dX3_tryThoseOut_38 : decode cX3_tryThoseOut 38 = .ok (.getfield 95, 3) := by decide +kernel
theorem dX3_tryThoseOut_41 : decode cX3_tryThoseOut 41 = .ok (.if_icmp .ne 8, 3) := by decide +kernel
theorem dX3_tryThoseOut_44 : decode cX3_tryThoseOut 44 = .ok (.aload_n 2, 1) := by decide +kernel
theorem dX3_tryThoseOut_45 : decode cX3_tryThoseOut 45 = .ok (.iconst 2, 1) := by decide +kernel
theorem dX3_tryThoseOut_46 : decode cX3_tryThoseOut 46 = .ok (.putfield 63, 3) := by decide +kernel
theorem dX3_tryThoseOut_49 : decode cX3_tryThoseOut 49 = .ok (.iinc 1 1, 3) := by decide +kernel
theorem dX3_tryThoseOut_52 : decode cX3_tryThoseOut 52 = .ok (.goto (-50), 3) := by decide +kernel
theorem dX3_tryThoseOut_55 : decode cX3_tryThoseOut 55 = .ok (.return_, 1) := by decide +kernel
set_option maxRecDepth 20000 in
theorem ggX3_hedgeSlow_Jx4a65c_size_8abf5 : GoodIn wsX3_hedgeSlow wsJx4a65c_size_8abf5 := goodIn_r _ [15, 16, 114, 115, 116] (by decide +kernel) (by decide +kernel)
set_option maxRecDepth 20000 in
theorem gX3_hedgeSlow_Jx4a65c_size_8abf5 : GoodIn wsX3_hedgeSlow (wsV RX3 43 RJx4a65c yJx4a65c_size_8abf5 wsJx4a65c_size_8abf5) := goodIn_app (goodIn_of _ (by decide +kernel)) ggX3_hedgeSlow_Jx4a65c_size_8abf5
set_option maxRecDepth 20000 in
theorem ggX3_hedgeSlow_Jx4a65c_get_915e3 : GoodIn wsX3_hedgeSlow wsJx4a65c_get_915e3 := goodIn_r _ [20, 16, 21, 22, 23, 24, 25, 26, 27, 28, 29, 30, 31, 14, 32, 33, 114, 115, 116] (by decide +kernel) (by decide +kernel)
set_option maxRecDepth 20000 in
theorem gX3_hedgeSlow_Jx4a65c_get_915e3 : GoodIn wsX3_hedgeSlow (wsV RX3 151 RJx4a65c yJx4a65c_get_915e3 wsJx4a65c_get_915e3) := goodIn_app (goodIn_of _ (by decide +kernel)) ggX3_hedgeSlow_Jx4a65c_get_915e3
set_option maxRecDepth 20000 in
theorem ggX3_hedgeSlow_X3_byFewest : GoodIn wsX3_hedgeSlow wsX3_byFewest := goodIn_r _ [38, 39, 40, 41, 42, 43, 11, 12, 13, 14, 15, 16, 17, 18, 19, 20, 21, 22, 23, 24, 25, 26, 27, 28, 29, 30, 31, 32, 33, 44, 45, 46, 47, 48, 49, 50, 51, 52, 85, 86, 87, 88, 89, 90, 91, 92, 93, 94, 95, 96, 97, 117, 118, 119, 120, 121, 122, 123, 124, 125, 126, 127, 128, 129, 130, 131, 132, 133, 114, 115, 116] (by decide +kernel) (by decide +kernel)
set_option maxRecDepth 20000 in
theorem gX3_hedgeSlow_X3_byFewest : GoodIn wsX3_hedgeSlow (wsV RX3 179 RX3 yX3_byFewest wsX3_byFewest) := goodIn_app (goodIn_of _ (by decide +kernel)) ggX3_hedgeSlow_X3_byFewest
set_option maxRecDepth 20000 in
theorem ggX3_hedgeSlow_X2_takeAsking : GoodIn wsX3_hedgeSlow wsX2_takeAsking := goodIn_r _ [56, 57, 50, 58, 59, 60, 61, 62, 63, 64, 65, 66, 67, 68, 69, 70, 71, 72, 73, 117, 118, 119, 120, 121, 122, 123, 124, 125, 126, 127, 128, 129, 130, 131, 132, 133, 110, 111, 112, 113] (by decide +kernel) (by decide +kernel)
set_option maxRecDepth 20000 in
theorem gX3_hedgeSlow_X2_takeAsking : GoodIn wsX3_hedgeSlow (wsV RX3 209 RX2 yX2_takeAsking wsX2_takeAsking) := goodIn_app (goodIn_of _ (by decide +kernel)) ggX3_hedgeSlow_X2_takeAsking
set_option maxRecDepth 20000 in
theorem ggX3_hedgeSlow_X1_begin : GoodIn wsX3_hedgeSlow wsX1_begin := goodIn_r _ [78, 79, 80, 81, 82, 83, 84, 98, 99, 100, 101, 102, 103, 104, 105, 106, 107, 108, 109, 110, 111, 112, 113, 117, 118, 119, 120, 121, 122, 123, 124, 125, 126, 127, 128, 129, 130, 131, 132, 133] (by decide +kernel) (by decide +kernel)
set_option maxRecDepth 20000 in
theorem gX3_hedgeSlow_X1_begin : GoodIn wsX3_hedgeSlow (wsV RX3 213 RX1 yX1_begin wsX1_begin) := goodIn_app (goodIn_of _ (by decide +kernel)) ggX3_hedgeSlow_X1_begin
theorem dX3_hedgeSlow_0 : decode cX3_hedgeSlow 0 = .ok (.aload_n 0, 1) := by decide +kernel
theorem dX3_hedgeSlow_1 : decode cX3_hedgeSlow 1 = .ok (.getfield 89, 3) := by decide +kernel
theorem dX3_hedgeSlow_4 : decode cX3_hedgeSlow 4 = .ok (.ifCond .ne 4, 3) := by decide +kernel
theorem dX3_hedgeSlow_7 : decode cX3_hedgeSlow 7 = .ok (.return_, 1) := by decide +kernel
theorem dX3_hedgeSlow_8 : decode cX3_hedgeSlow 8 = .ok (.iconst 0, 1) := by decide +kernel
theorem dX3_hedgeSlow_9 : decode cX3_hedgeSlow 9 = .ok (.istore_n 1, 1) := by decide +kernel
theorem dX3_hedgeSlow_10 : decode cX3_hedgeSlow 10 = .ok (.iload_n 1, 1) := by decide +kernel
theorem dX3_hedgeSlow_11 : decode cX3_hedgeSlow 11 = .ok (.aload_n 0, 1) := by decide +kernel
theorem dX3_hedgeSlow_12 : decode cX3_hedgeSlow 12 = .ok (.getfield 19, 3) := by decide +kernel
theorem dX3_hedgeSlow_15 : decode cX3_hedgeSlow 15 = .ok (.invokevirtual 43, 3) := by decide +kernel
theorem dX3_hedgeSlow_18 : decode cX3_hedgeSlow 18 = .ok (.if_icmp .ge 106, 3) := by decide +kernel
theorem dX3_hedgeSlow_21 : decode cX3_hedgeSlow 21 = .ok (.aload_n 0, 1) := by decide +kernel
theorem dX3_hedgeSlow_22 : decode cX3_hedgeSlow 22 = .ok (.getfield 19, 3) := by decide +kernel
theorem dX3_hedgeSlow_25 : decode cX3_hedgeSlow 25 = .ok (.iload_n 1, 1) := by decide +kernel
theorem dX3_hedgeSlow_26 : decode cX3_hedgeSlow 26 = .ok (.invokevirtual 151, 3) := by decide +kernel
theorem dX3_hedgeSlow_29 : decode cX3_hedgeSlow 29 = .ok (.checkcast 93, 3) := by decide +kernel
theorem dX3_hedgeSlow_32 : decode cX3_hedgeSlow 32 = .ok (.astore_n 2, 1) := by decide +kernel
theorem dX3_hedgeSlow_33 : decode cX3_hedgeSlow 33 = .ok (.aload_n 2, 1) := by decide +kernel
theorem dX3_hedgeSlow_34 : decode cX3_hedgeSlow 34 = .ok (.getfield 251, 3) := by decide +kernel
theorem dX3_hedgeSlow_37 : decode cX3_hedgeSlow 37 = .ok (.ifnonnull 10, 3) := by decide +kernel
theorem dX3_hedgeSlow_40 : decode cX3_hedgeSlow 40 = .ok (.aload_n 2, 1) := by decide +kernel
theorem dX3_hedgeSlow_41 : decode cX3_hedgeSlow 41 = .ok (.getfield 247, 3) := by decide +kernel
theorem dX3_hedgeSlow_44 : decode cX3_hedgeSlow 44 = .ok (.goto 4, 3) := by decide +kernel
theorem dX3_hedgeSlow_47 : decode cX3_hedgeSlow 47 = .ok (.aconst_null, 1) := by decide +kernel
theorem dX3_hedgeSlow_48 : decode cX3_hedgeSlow 48 = .ok (.astore_n 3, 1) := by decide +kernel
theorem dX3_hedgeSlow_49 : decode cX3_hedgeSlow 49 = .ok (.aload_n 3, 1) := by decide +kernel
theorem dX3_hedgeSlow_50 : decode cX3_hedgeSlow 50 = .ok (.ifnull 68, 3) := by decide +kernel
theorem dX3_hedgeSlow_53 : decode cX3_hedgeSlow 53 = .ok (.aload_n 2, 1) := by decide +kernel
theorem dX3_hedgeSlow_54 : decode cX3_hedgeSlow 54 = .ok (.getfield 284, 3) := by decide +kernel
theorem dX3_hedgeSlow_57 : decode cX3_hedgeSlow 57 = .ok (.ifCond .eq 61, 3) := by decide +kernel
theorem dX3_hedgeSlow_60 : decode cX3_hedgeSlow 60 = .ok (.aload_n 3, 1) := by decide +kernel
theorem dX3_hedgeSlow_61 : decode cX3_hedgeSlow 61 = .ok (.getfield 309, 3) := by decide +kernel
theorem dX3_hedgeSlow_64 : decode cX3_hedgeSlow 64 = .ok (.aload_n 0, 1) := by decide +kernel
theorem dX3_hedgeSlow_65 : decode cX3_hedgeSlow 65 = .ok (.getfield 89, 3) := by decide +kernel
theorem dX3_hedgeSlow_68 : decode cX3_hedgeSlow 68 = .ok (.iadd, 1) := by decide +kernel
theorem dX3_hedgeSlow_69 : decode cX3_hedgeSlow 69 = .ok (.aload_n 0, 1) := by decide +kernel
theorem dX3_hedgeSlow_70 : decode cX3_hedgeSlow 70 = .ok (.getfield 95, 3) := by decide +kernel
theorem dX3_hedgeSlow_73 : decode cX3_hedgeSlow 73 = .ok (.if_icmp .eq 6, 3) := by decide +kernel
theorem dX3_hedgeSlow_76 : decode cX3_hedgeSlow 76 = .ok (.goto 42, 3) := by decide +kernel
theorem dX3_hedgeSlow_79 : decode cX3_hedgeSlow 79 = .ok (.aload_n 0, 1) := by decide +kernel
theorem dX3_hedgeSlow_80 : decode cX3_hedgeSlow 80 = .ok (.aload_n 2, 1) := by decide +kernel
theorem dX3_hedgeSlow_81 : decode cX3_hedgeSlow 81 = .ok (.getfield 202, 3) := by decide +kernel
theorem dX3_hedgeSlow_84 : decode cX3_hedgeSlow 84 = .ok (.iconst (-1), 1) := by decide +kernel
theorem dX3_hedgeSlow_85 : decode cX3_hedgeSlow 85 = .ok (.invokevirtual 179, 3) := by decide +kernel
theorem dX3_hedgeSlow_88 : decode cX3_hedgeSlow 88 = .ok (.astore 4, 2) := by decide +kernel
theorem dX3_hedgeSlow_90 : decode cX3_hedgeSlow 90 = .ok (.aload 4, 2) := by decide +kernel
theorem dX3_hedgeSlow_92 : decode cX3_hedgeSlow 92 = .ok (.ifnull 26, 3) := by decide +kernel
theorem dX3_hedgeSlow_95 : decode cX3_hedgeSlow 95 = .ok (.aload_n 2, 1) := by decide +kernel
theorem dX3_hedgeSlow_96 : decode cX3_hedgeSlow 96 = .ok (.aload 4, 2) := by decide +kernel
theorem dX3_hedgeSlow_98 : decode cX3_hedgeSlow 98 = .ok (.aload_n 0, 1) := by decide +kernel
theorem dX3_hedgeSlow_99 : decode cX3_hedgeSlow 99 = .ok (.getfield 95, 3) := by decide +kernel
theorem dX3_hedgeSlow_102 : decode cX3_hedgeSlow 102 = .ok (.invokevirtual 209, 3) := by decide +kernel
theorem dX3_hedgeSlow_105 : decode cX3_hedgeSlow 105 = .ok (.invokevirtual 213, 3) := by decide +kernel
theorem dX3_hedgeSlow_108 : decode cX3_hedgeSlow 108 = .ok (.aload_n 0, 1) := by decide +kernel
theorem dX3_hedgeSlow_109 : decode cX3_hedgeSlow 109 = .ok (.dup, 1) := by decide +kernel
theorem dX3_hedgeSlow_110 : decode cX3_hedgeSlow 110 = .ok (.getfield 167, 3) := by decide +kernel
theorem dX3_hedgeSlow_113 : decode cX3_hedgeSlow 113 = .ok (.iconst 1, 1) := by decide +kernel
theorem dX3_hedgeSlow_114 : decode cX3_hedgeSlow 114 = .ok (.iadd, 1) := by decide +kernel
theorem dX3_hedgeSlow_115 : decode cX3_hedgeSlow 115 = .ok (.putfield 167, 3) := by decide +kernel
theorem dX3_hedgeSlow_118 : decode cX3_hedgeSlow 118 = .ok (.iinc 1 1, 3) := by decide +kernel
theorem dX3_hedgeSlow_121 : decode cX3_hedgeSlow 121 = .ok (.goto (-111), 3) := by decide +kernel
theorem dX3_hedgeSlow_124 : decode cX3_hedgeSlow 124 = .ok (.return_, 1) := by decide +kernel
set_option maxRecDepth 20000 in
theorem ggX3_askQueued_Jx4a65c_size_8abf5 : GoodIn wsX3_askQueued wsJx4a65c_size_8abf5 := goodIn_r _ [7, 8, 144, 145, 146] (by decide +kernel) (by decide +kernel)
set_option maxRecDepth 20000 in
theorem gX3_askQueued_Jx4a65c_size_8abf5 : GoodIn wsX3_askQueued (wsV RX3 43 RJx4a65c yJx4a65c_size_8abf5 wsJx4a65c_size_8abf5) := goodIn_app (goodIn_of _ (by decide +kernel)) ggX3_askQueued_Jx4a65c_size_8abf5
set_option maxRecDepth 20000 in
theorem ggX3_askQueued_Jx4a65c_get_915e3 : GoodIn wsX3_askQueued wsJx4a65c_get_915e3 := goodIn_r _ [12, 8, 13, 14, 15, 16, 17, 18, 19, 20, 21, 22, 23, 6, 24, 25, 144, 145, 146] (by decide +kernel) (by decide +kernel)
set_option maxRecDepth 20000 in
theorem gX3_askQueued_Jx4a65c_get_915e3 : GoodIn wsX3_askQueued (wsV RX3 151 RJx4a65c yJx4a65c_get_915e3 wsJx4a65c_get_915e3) := goodIn_app (goodIn_of _ (by decide +kernel)) ggX3_askQueued_Jx4a65c_get_915e3
set_option maxRecDepth 20000 in
theorem ggX3_askQueued_X3_askByRule : GoodIn wsX3_askQueued wsX3_askByRule := goodIn_r _ [30, 31, 32, 33, 34, 35, 36, 37, 29, 38, 39, 40, 41, 42, 43, 44, 45, 46, 3, 4, 5, 6, 7, 8, 9, 10, 11, 12, 13, 14, 15, 16, 17, 18, 19, 20, 21, 22, 23, 24, 25, 47, 48, 49, 50, 51, 52, 53, 54, 55, 56, 57, 58, 59, 60, 61, 62, 63, 64, 65, 66, 67, 68, 69, 70, 71, 72, 73, 74, 75, 76, 77, 78, 79, 80, 81, 82, 83, 84, 85, 86, 87, 88, 89, 90, 91, 92, 93, 94, 95, 96, 97, 98, 99, 100, 101, 102, 103, 104, 105, 106, 107, 108, 109, 110, 111, 112, 113, 114, 115, 116, 147, 148, 149, 150, 151, 152, 153, 154, 155, 156, 157, 158, 131, 132, 133, 134, 135, 136, 137, 138, 139, 140, 141, 142, 143, 159, 160, 161, 162, 163, 164, 165, 166, 167, 168, 169, 170, 171, 172, 173, 174, 175, 144, 145, 146, 176, 177, 178, 179] (by decide +kernel) (by decide +kernel)
set_option maxRecDepth 20000 in
theorem gX3_askQueued_X3_askByRule : GoodIn wsX3_askQueued (wsV RX3 101 RX3 yX3_askByRule wsX3_askByRule) := goodIn_app (goodIn_of _ (by decide +kernel)) ggX3_askQueued_X3_askByRule
set_option maxRecDepth 20000 in
theorem ggX3_askQueued_Jx4a65c_remove_915e3 : GoodIn wsX3_askQueued wsJx4a65c_remove_915e3 := goodIn_r _ [120, 8, 25, 13, 14, 15, 16, 17, 18, 19, 20, 121, 122, 123, 6, 124, 125, 126, 127, 128, 129, 130, 144, 145, 146] (by decide +kernel) (by decide +kernel)
set_option maxRecDepth 20000 in
theorem gX3_askQueued_Jx4a65c_remove_915e3 : GoodIn wsX3_askQueued (wsV RX3 223 RJx4a65c yJx4a65c_remove_915e3 wsJx4a65c_remove_915e3) := goodIn_app (goodIn_of _ (by decide +kernel)) ggX3_askQueued_Jx4a65c_remove_915e3
theorem dX3_askQueued_0 : decode cX3_askQueued 0 = .ok (.aload_n 0, 1) := by decide +kernel
theorem dX3_askQueued_1 : decode cX3_askQueued 1 = .ok (.getfield 22, 3) := by decide +kernel
theorem dX3_askQueued_4 : decode cX3_askQueued 4 = .ok (.invokevirtual 43, 3) := by decide +kernel
theorem dX3_askQueued_7 : decode cX3_askQueued 7 = .ok (.istore_n 1, 1) := by decide +kernel
theorem dX3_askQueued_8 : decode cX3_askQueued 8 = .ok (.iconst 0, 1) := by decide +kernel
theorem dX3_askQueued_9 : decode cX3_askQueued 9 = .ok (.istore_n 2, 1) := by decide +kernel
theorem dX3_askQueued_10 : decode cX3_askQueued 10 = .ok (.iconst 0, 1) := by decide +kernel
theorem dX3_askQueued_11 : decode cX3_askQueued 11 = .ok (.istore_n 3, 1) := by decide +kernel
theorem dX3_askQueued_12 : decode cX3_askQueued 12 = .ok (.iload_n 3, 1) := by decide +kernel
theorem dX3_askQueued_13 : decode cX3_askQueued 13 = .ok (.iload_n 1, 1) := by decide +kernel
theorem dX3_askQueued_14 : decode cX3_askQueued 14 = .ok (.if_icmp .ge 53, 3) := by decide +kernel
theorem dX3_askQueued_17 : decode cX3_askQueued 17 = .ok (.iload_n 2, 1) := by decide +kernel
theorem dX3_askQueued_18 : decode cX3_askQueued 18 = .ok (.aload_n 0, 1) := by decide +kernel
theorem dX3_askQueued_19 : decode cX3_askQueued 19 = .ok (.getfield 22, 3) := by decide +kernel
theorem dX3_askQueued_22 : decode cX3_askQueued 22 = .ok (.invokevirtual 43, 3) := by decide +kernel
theorem dX3_askQueued_25 : decode cX3_askQueued 25 = .ok (.if_icmp .ge 42, 3) := by decide +kernel
theorem dX3_askQueued_28 : decode cX3_askQueued 28 = .ok (.aload_n 0, 1) := by decide +kernel
theorem dX3_askQueued_29 : decode cX3_askQueued 29 = .ok (.aload_n 0, 1) := by decide +kernel
theorem dX3_askQueued_30 : decode cX3_askQueued 30 = .ok (.getfield 22, 3) := by decide +kernel
theorem dX3_askQueued_33 : decode cX3_askQueued 33 = .ok (.iload_n 2, 1) := by decide +kernel
theorem dX3_askQueued_34 : decode cX3_askQueued 34 = .ok (.invokevirtual 151, 3) := by decide +kernel
theorem dX3_askQueued_37 : decode cX3_askQueued 37 = .ok (.checkcast 93, 3) := by decide +kernel
theorem dX3_askQueued_40 : decode cX3_askQueued 40 = .ok (.invokevirtual 101, 3) := by decide +kernel
theorem dX3_askQueued_43 : decode cX3_askQueued 43 = .ok (.ifCond .eq 15, 3) := by decide +kernel
theorem dX3_askQueued_46 : decode cX3_askQueued 46 = .ok (.aload_n 0, 1) := by decide +kernel
theorem dX3_askQueued_47 : decode cX3_askQueued 47 = .ok (.getfield 22, 3) := by decide +kernel
theorem dX3_askQueued_50 : decode cX3_askQueued 50 = .ok (.iload_n 2, 1) := by decide +kernel
theorem dX3_askQueued_51 : decode cX3_askQueued 51 = .ok (.invokevirtual 223, 3) := by decide +kernel
theorem dX3_askQueued_54 : decode cX3_askQueued 54 = .ok (.pop, 1) := by decide +kernel
theorem dX3_askQueued_55 : decode cX3_askQueued 55 = .ok (.goto 6, 3) := by decide +kernel
theorem dX3_askQueued_58 : decode cX3_askQueued 58 = .ok (.iinc 2 1, 3) := by decide +kernel
theorem dX3_askQueued_61 : decode cX3_askQueued 61 = .ok (.iinc 3 1, 3) := by decide +kernel
theorem dX3_askQueued_64 : decode cX3_askQueued 64 = .ok (.goto (-52), 3) := by decide +kernel
theorem dX3_askQueued_67 : decode cX3_askQueued 67 = .ok (.return_, 1) := by decide +kernel
set_option maxRecDepth 20000 in
theorem ggX3_letDrainedGo_Jx4a65c_size_8abf5 : GoodIn wsX3_letDrainedGo wsJx4a65c_size_8abf5 := goodIn_r _ [9, 10, 58, 59, 60] (by decide +kernel) (by decide +kernel)
set_option maxRecDepth 20000 in
theorem gX3_letDrainedGo_Jx4a65c_size_8abf5 : GoodIn wsX3_letDrainedGo (wsV RX3 43 RJx4a65c yJx4a65c_size_8abf5 wsJx4a65c_size_8abf5) := goodIn_app (goodIn_of _ (by decide +kernel)) ggX3_letDrainedGo_Jx4a65c_size_8abf5
set_option maxRecDepth 20000 in
theorem ggX3_letDrainedGo_Jx4a65c_get_915e3 : GoodIn wsX3_letDrainedGo wsJx4a65c_get_915e3 := goodIn_r _ [14, 10, 15, 16, 17, 18, 19, 20, 21, 22, 23, 24, 25, 8, 26, 27, 58, 59, 60] (by decide +kernel) (by decide +kernel)
set_option maxRecDepth 20000 in
theorem gX3_letDrainedGo_Jx4a65c_get_915e3 : GoodIn wsX3_letDrainedGo (wsV RX3 151 RJx4a65c yJx4a65c_get_915e3 wsJx4a65c_get_915e3) := goodIn_app (goodIn_of _ (by decide +kernel)) ggX3_letDrainedGo_Jx4a65c_get_915e3
theorem dX3_letDrainedGo_0 : decode cX3_letDrainedGo 0 = .ok (.iconst 0, 1) := by decide +kernel
theorem dX3_letDrainedGo_1 : decode cX3_letDrainedGo 1 = .ok (.istore_n 1, 1) := by decide +kernel
theorem dX3_letDrainedGo_2 : decode cX3_letDrainedGo 2 = .ok (.iload_n 1, 1) := by decide +kernel
theorem dX3_letDrainedGo_3 : decode cX3_letDrainedGo 3 = .ok (.aload_n 0, 1) := by decide +kernel
theorem dX3_letDrainedGo_4 : decode cX3_letDrainedGo 4 = .ok (.getfield 10, 3) := by decide +kernel
theorem dX3_letDrainedGo_7 : decode cX3_letDrainedGo 7 = .ok (.invokevirtual 43, 3) := by decide +kernel
theorem dX3_letDrainedGo_10 : decode cX3_letDrainedGo 10 = .ok (.if_icmp .ge 41, 3) := by decide +kernel
theorem dX3_letDrainedGo_13 : decode cX3_letDrainedGo 13 = .ok (.aload_n 0, 1) := by decide +kernel
theorem dX3_letDrainedGo_14 : decode cX3_letDrainedGo 14 = .ok (.getfield 10, 3) := by decide +kernel
theorem dX3_letDrainedGo_17 : decode cX3_letDrainedGo 17 = .ok (.iload_n 1, 1) := by decide +kernel
theorem dX3_letDrainedGo_18 : decode cX3_letDrainedGo 18 = .ok (.invokevirtual 151, 3) := by decide +kernel
theorem dX3_letDrainedGo_21 : decode cX3_letDrainedGo 21 = .ok (.checkcast 47, 3) := by decide +kernel
theorem dX3_letDrainedGo_24 : decode cX3_letDrainedGo 24 = .ok (.astore_n 2, 1) := by decide +kernel
theorem dX3_letDrainedGo_25 : decode cX3_letDrainedGo 25 = .ok (.aload_n 2, 1) := by decide +kernel
theorem dX3_letDrainedGo_26 : decode cX3_letDrainedGo 26 = .ok (.getfield 63, 3) := by decide +kernel
theorem dX3_letDrainedGo_29 : decode cX3_letDrainedGo 29 = .ok (.iconst 3, 1) := by decide +kernel
theorem dX3_letDrainedGo_30 : decode cX3_letDrainedGo 30 = .ok (.if_icmp .ne 15, 3) := by decide +kernel
theorem dX3_letDrainedGo_33 : decode cX3_letDrainedGo 33 = .ok (.aload_n 2, 1) := by decide +kernel
theorem dX3_letDrainedGo_34 : decode cX3_letDrainedGo 34 = .ok (.getfield 80, 3) := by decide +kernel
theorem dX3_letDrainedGo_37 : decode cX3_letDrainedGo 37 = .ok (.ifCond .ne 8, 3) := by decide +kernel
theorem dX3_letDrainedGo_40 : decode cX3_letDrainedGo 40 = .ok (.aload_n 2, 1) := by decide +kernel
theorem dX3_letDrainedGo_41 : decode cX3_letDrainedGo 41 = .ok (.iconst 4, 1) := by decide +kernel
theorem dX3_letDrainedGo_42 : decode cX3_letDrainedGo 42 = .ok (.putfield 63, 3) := by decide +kernel
theorem dX3_letDrainedGo_45 : decode cX3_letDrainedGo 45 = .ok (.iinc 1 1, 3) := by decide +kernel
theorem dX3_letDrainedGo_48 : decode cX3_letDrainedGo 48 = .ok (.goto (-46), 3) := by decide +kernel
theorem dX3_letDrainedGo_51 : decode cX3_letDrainedGo 51 = .ok (.return_, 1) := by decide +kernel
set_option maxRecDepth 20000 in
theorem ggX3_passTick_X3_takeWhatIsOver : GoodIn wsX3_passTick wsX3_takeWhatIsOver := goodIn_r _ [6, 7, 8, 9, 10, 11, 1, 12, 13, 14, 15, 16, 17, 18, 19, 20, 21, 22, 23, 24, 25, 26, 27, 28, 29, 30, 31, 32, 33, 34, 35, 36, 37, 38, 5, 39, 40, 41, 42, 43, 44, 45, 46, 47, 48, 49, 50, 51, 52, 53, 54, 55, 56, 57, 58, 59, 60, 61, 62, 63, 64, 65, 66, 67, 68, 69, 70, 71, 72, 73, 74, 75, 76, 77, 78, 79, 80, 81, 82, 83, 84, 85, 86, 87, 88, 89, 90, 91, 92, 93, 94, 95, 96, 97, 98, 99, 100, 101, 102, 103, 104, 105, 106, 107, 108, 109, 110, 111, 112, 113, 114, 115, 116, 117, 118, 119, 120, 121, 122, 123, 124, 125, 126, 127, 128, 129, 130, 131, 132, 133, 134, 135, 136, 137, 138, 139, 140, 141, 142, 143, 144, 145, 146, 147, 148, 149, 150, 151, 152, 153, 154, 155, 156, 157, 158, 159, 160, 161, 162, 163, 164, 165, 166, 167, 168, 295, 296, 297, 298, 299, 300, 301, 302, 303, 304, 305, 306, 307, 308, 309, 310, 311, 312, 313, 314, 315, 316, 317, 318, 319, 320, 321, 322, 323, 324, 325, 326, 327, 328, 329, 330, 331, 332, 333, 334, 335, 336, 337, 338, 339, 340, 341, 342, 343] (by decide +kernel) (by decide +kernel)
set_option maxRecDepth 20000 in
theorem gX3_passTick_X3_takeWhatIsOver : GoodIn wsX3_passTick (wsV RX3 229 RX3 yX3_takeWhatIsOver wsX3_takeWhatIsOver) := goodIn_app (goodIn_of _ (by decide +kernel)) ggX3_passTick_X3_takeWhatIsOver
set_option maxRecDepth 20000 in
theorem ggX3_passTick_X3_meetDues : GoodIn wsX3_passTick wsX3_meetDues := goodIn_r _ [172, 7, 8, 45, 1, 12, 13, 14, 15, 16, 17, 18, 19, 20, 21, 22, 23, 24, 25, 26, 27, 28, 29, 30, 31, 32, 33, 34, 35, 173, 174, 175, 5, 176, 9, 10, 41, 56, 57, 58, 59, 60, 61, 62, 63, 64, 65, 66, 67, 68, 76, 77, 78, 79, 80, 81, 82, 83, 84, 85, 86, 87, 88, 89, 90, 91, 92, 50, 93, 55, 54, 94, 95, 96, 97, 98, 99, 53, 69, 70, 71, 72, 73, 74, 177, 178, 179, 180, 110, 181, 182, 183, 184, 185, 186, 187, 188, 189, 122, 123, 124, 125, 126, 127, 295, 296, 297, 298, 299, 300, 301, 302, 303, 304, 305, 306, 307, 308, 309, 310, 311, 312, 313, 314, 315, 316, 317, 318, 319, 324, 325, 326, 320, 321, 322, 323, 327, 328, 329, 330, 331, 332, 333, 334, 335, 336, 337, 338, 339, 340, 341, 342, 343] (by decide +kernel) (by decide +kernel)
set_option maxRecDepth 20000 in
theorem gX3_passTick_X3_meetDues : GoodIn wsX3_passTick (wsV RX3 232 RX3 yX3_meetDues wsX3_meetDues) := goodIn_app (goodIn_of _ (by decide +kernel)) ggX3_passTick_X3_meetDues
set_option maxRecDepth 20000 in
theorem ggX3_passTick_X3_dropEnded : GoodIn wsX3_passTick wsX3_dropEnded := goodIn_r _ [193, 7, 8, 13, 14, 15, 16, 17, 18, 19, 20, 21, 22, 23, 24, 25, 26, 27, 28, 29, 30, 31, 32, 33, 34, 35, 194, 195, 196, 59, 197, 198, 182, 183, 184, 185, 186, 187, 188, 189, 122, 123, 124, 125, 126, 127, 295, 296, 297, 298, 299, 300, 301, 302, 303, 304, 305, 306, 307, 324, 325, 326, 308, 309, 310, 311, 312, 313, 314, 315, 316, 317, 318, 319] (by decide +kernel) (by decide +kernel)
set_option maxRecDepth 20000 in
theorem gX3_passTick_X3_dropEnded : GoodIn wsX3_passTick (wsV RX3 131 RX3 yX3_dropEnded wsX3_dropEnded) := goodIn_app (goodIn_of _ (by decide +kernel)) ggX3_passTick_X3_dropEnded
set_option maxRecDepth 20000 in
theorem ggX3_passTick_X3_tryThoseOut : GoodIn wsX3_passTick wsX3_tryThoseOut := goodIn_r _ [202, 88, 89, 82, 203, 1, 13, 14, 15, 16, 17, 18, 19, 20, 21, 22, 23, 24, 25, 26, 27, 28, 29, 30, 31, 32, 33, 34, 35, 295, 296, 297, 298, 299, 300, 301, 302, 303, 304, 305, 306, 307, 327, 328, 329, 330, 331, 332, 333, 334, 335, 336, 337, 338, 339, 340, 341, 342, 343, 324, 325, 326] (by decide +kernel) (by decide +kernel)
set_option maxRecDepth 20000 in
theorem gX3_passTick_X3_tryThoseOut : GoodIn wsX3_passTick (wsV RX3 235 RX3 yX3_tryThoseOut wsX3_tryThoseOut) := goodIn_app (goodIn_of _ (by decide +kernel)) ggX3_passTick_X3_tryThoseOut
set_option maxRecDepth 20000 in
theorem ggX3_passTick_X3_hedgeSlow : GoodIn wsX3_passTick wsX3_hedgeSlow := goodIn_r _ [207, 208, 7, 8, 10, 9, 44, 209, 1, 210, 211, 13, 14, 15, 16, 17, 18, 19, 20, 21, 22, 23, 24, 25, 26, 27, 28, 29, 30, 31, 32, 33, 34, 35, 212, 213, 214, 5, 215, 88, 89, 216, 217, 218, 219, 220, 221, 50, 222, 223, 224, 225, 55, 226, 227, 228, 229, 230, 231, 232, 233, 234, 235, 236, 237, 238, 239, 240, 241, 242, 243, 244, 245, 246, 247, 248, 249, 59, 250, 62, 61, 251, 67, 252, 198, 295, 296, 297, 298, 299, 300, 301, 302, 303, 304, 305, 306, 307, 308, 309, 310, 311, 312, 313, 314, 315, 316, 317, 318, 319, 320, 321, 322, 323, 324, 325, 326, 327, 328, 329, 330, 331, 332, 333, 334, 335, 336, 337, 338, 339, 340, 341, 342, 343] (by decide +kernel) (by decide +kernel)
set_option maxRecDepth 20000 in
theorem gX3_passTick_X3_hedgeSlow : GoodIn wsX3_passTick (wsV RX3 238 RX3 yX3_hedgeSlow wsX3_hedgeSlow) := goodIn_app (goodIn_of _ (by decide +kernel)) ggX3_passTick_X3_hedgeSlow
set_option maxRecDepth 20000 in
theorem ggX3_passTick_X3_askQueued : GoodIn wsX3_passTick wsX3_askQueued := goodIn_r _ [256, 110, 8, 13, 14, 15, 16, 17, 18, 19, 20, 21, 22, 23, 24, 25, 26, 27, 28, 29, 30, 31, 32, 33, 34, 35, 257, 258, 259, 5, 260, 261, 210, 262, 1, 263, 264, 265, 266, 267, 268, 269, 270, 88, 89, 271, 218, 219, 220, 221, 50, 222, 223, 224, 225, 55, 272, 273, 274, 275, 276, 277, 278, 279, 280, 281, 95, 96, 97, 98, 282, 283, 284, 285, 286, 212, 213, 214, 215, 216, 217, 287, 288, 289, 290, 226, 227, 228, 229, 230, 231, 232, 233, 234, 235, 236, 237, 238, 239, 240, 241, 242, 243, 244, 245, 246, 247, 248, 249, 59, 250, 62, 61, 251, 67, 252, 198, 182, 183, 184, 185, 186, 187, 188, 189, 122, 123, 124, 125, 126, 127, 295, 296, 297, 298, 299, 300, 301, 302, 303, 304, 305, 306, 307, 324, 325, 326, 308, 309, 310, 311, 312, 313, 314, 315, 316, 317, 318, 319, 327, 328, 329, 330, 331, 332, 333, 334, 335, 336, 337, 338, 339, 340, 341, 342, 343, 320, 321, 322, 323] (by decide +kernel) (by decide +kernel)
set_option maxRecDepth 20000 in
theorem gX3_passTick_X3_askQueued : GoodIn wsX3_passTick (wsV RX3 241 RX3 yX3_askQueued wsX3_askQueued) := goodIn_app (goodIn_of _ (by decide +kernel)) ggX3_passTick_X3_askQueued
set_option maxRecDepth 20000 in
theorem ggX3_passTick_X3_letDrainedGo : GoodIn wsX3_passTick wsX3_letDrainedGo := goodIn_r _ [294, 88, 89, 82, 217, 13, 14, 15, 16, 17, 18, 19, 20, 21, 22, 23, 24, 25, 26, 27, 28, 29, 30, 31, 32, 33, 34, 35, 295, 296, 297, 298, 299, 300, 301, 302, 303, 304, 305, 306, 307, 327, 328, 329, 330, 331, 332, 333, 334, 335, 336, 337, 338, 339, 340, 341, 342, 343, 324, 325, 326] (by decide +kernel) (by decide +kernel)
set_option maxRecDepth 20000 in
theorem gX3_passTick_X3_letDrainedGo : GoodIn wsX3_passTick (wsV RX3 244 RX3 yX3_letDrainedGo wsX3_letDrainedGo) := goodIn_app (goodIn_of _ (by decide +kernel)) ggX3_passTick_X3_letDrainedGo
theorem dX3_passTick_0 : decode cX3_passTick 0 = .ok (.aload_n 0, 1) := by decide +kernel
theorem dX3_passTick_1 : decode cX3_passTick 1 = .ok (.dup, 1) := by decide +kernel
theorem dX3_passTick_2 : decode cX3_passTick 2 = .ok (.getfield 95, 3) := by decide +kernel
theorem dX3_passTick_5 : decode cX3_passTick 5 = .ok (.iconst 1, 1) := by decide +kernel
theorem dX3_passTick_6 : decode cX3_passTick 6 = .ok (.iadd, 1) := by decide +kernel
theorem dX3_passTick_7 : decode cX3_passTick 7 = .ok (.putfield 95, 3) := by decide +kernel
theorem dX3_passTick_10 : decode cX3_passTick 10 = .ok (.aload_n 0, 1) := by decide +kernel
theorem dX3_passTick_11 : decode cX3_passTick 11 = .ok (.invokevirtual 229, 3) := by decide +kernel
theorem dX3_passTick_14 : decode cX3_passTick 14 = .ok (.aload_n 0, 1) := by decide +kernel
theorem dX3_passTick_15 : decode cX3_passTick 15 = .ok (.invokevirtual 232, 3) := by decide +kernel
theorem dX3_passTick_18 : decode cX3_passTick 18 = .ok (.aload_n 0, 1) := by decide +kernel
theorem dX3_passTick_19 : decode cX3_passTick 19 = .ok (.invokevirtual 131, 3) := by decide +kernel
theorem dX3_passTick_22 : decode cX3_passTick 22 = .ok (.aload_n 0, 1) := by decide +kernel
theorem dX3_passTick_23 : decode cX3_passTick 23 = .ok (.invokevirtual 235, 3) := by decide +kernel
theorem dX3_passTick_26 : decode cX3_passTick 26 = .ok (.aload_n 0, 1) := by decide +kernel
theorem dX3_passTick_27 : decode cX3_passTick 27 = .ok (.invokevirtual 238, 3) := by decide +kernel
theorem dX3_passTick_30 : decode cX3_passTick 30 = .ok (.aload_n 0, 1) := by decide +kernel
theorem dX3_passTick_31 : decode cX3_passTick 31 = .ok (.invokevirtual 241, 3) := by decide +kernel
theorem dX3_passTick_34 : decode cX3_passTick 34 = .ok (.aload_n 0, 1) := by decide +kernel
theorem dX3_passTick_35 : decode cX3_passTick 35 = .ok (.invokevirtual 244, 3) := by decide +kernel
theorem dX3_passTick_38 : decode cX3_passTick 38 = .ok (.return_, 1) := by decide +kernel
set_option maxRecDepth 20000 in
theorem ggX3_ticks_X3_faultOf : GoodIn wsX3_ticks wsX3_faultOf := goodIn_r _ [6] (by decide +kernel) (by decide +kernel)
set_option maxRecDepth 20000 in
theorem gX3_ticks_X3_faultOf : GoodIn wsX3_ticks (va_wsS RX3 72 yX3_faultOf wsX3_faultOf) := goodIn_app (goodIn_of _ (by decide +kernel)) ggX3_ticks_X3_faultOf
set_option maxRecDepth 20000 in
theorem ggX3_ticks_X3_refuse : GoodIn wsX3_ticks wsX3_refuse := goodIn_r _ [10, 11, 307, 308, 309, 310, 311, 312, 313, 314, 315, 316, 317, 318, 319] (by decide +kernel) (by decide +kernel)
set_option maxRecDepth 20000 in
theorem gX3_ticks_X3_refuse : GoodIn wsX3_ticks (wsV RX3 39 RX3 yX3_refuse wsX3_refuse) := goodIn_app (goodIn_of _ (by decide +kernel)) ggX3_ticks_X3_refuse
set_option maxRecDepth 20000 in
theorem ggX3_ticks_X3_passTick : GoodIn wsX3_ticks wsX3_passTick := goodIn_r _ [15, 1, 16, 17, 18, 5, 19, 20, 21, 22, 23, 24, 25, 26, 27, 28, 29, 30, 31, 32, 33, 34, 35, 36, 37, 38, 39, 40, 41, 42, 43, 44, 45, 46, 47, 48, 49, 50, 51, 52, 53, 54, 55, 56, 57, 58, 59, 60, 61, 62, 63, 64, 65, 66, 67, 68, 69, 70, 71, 72, 73, 74, 75, 76, 77, 78, 79, 80, 81, 82, 83, 84, 85, 86, 2, 87, 88, 89, 90, 91, 92, 93, 94, 95, 96, 97, 98, 99, 100, 101, 102, 103, 104, 105, 106, 107, 108, 109, 110, 111, 112, 113, 114, 115, 116, 117, 118, 119, 120, 121, 122, 123, 124, 125, 126, 127, 128, 129, 130, 131, 132, 133, 134, 135, 136, 137, 138, 139, 140, 141, 142, 143, 144, 145, 146, 147, 148, 149, 150, 151, 152, 153, 154, 155, 156, 157, 158, 159, 160, 161, 162, 163, 164, 165, 166, 167, 168, 169, 170, 171, 172, 173, 174, 175, 176, 177, 178, 179, 180, 181, 182, 183, 184, 185, 186, 187, 188, 189, 190, 191, 192, 193, 194, 195, 196, 197, 198, 199, 200, 201, 202, 203, 204, 205, 206, 207, 208, 209, 210, 211, 212, 213, 214, 215, 216, 217, 218, 219, 220, 221, 222, 223, 224, 225, 226, 227, 228, 229, 230, 231, 232, 233, 234, 235, 236, 237, 238, 239, 240, 241, 242, 243, 244, 245, 246, 247, 248, 249, 250, 251, 252, 253, 254, 255, 256, 257, 258, 259, 260, 261, 262, 263, 264, 265, 266, 267, 268, 269, 270, 271, 272, 273, 274, 275, 276, 277, 278, 279, 280, 281, 282, 283, 284, 285, 286, 287, 288, 289, 290, 291, 292, 293, 294, 295, 296, 297, 298, 299, 300, 301, 302, 303, 304, 305, 306, 307, 308, 309, 310, 311, 312, 313, 314, 315, 316, 317, 318, 319, 320, 321, 322, 323, 324, 325, 326, 327, 328, 329, 330, 331, 332, 333, 334, 335, 336, 337, 338, 339, 340, 341, 342, 343, 344, 345, 346, 347, 348, 349, 350, 351, 352, 353, 354, 355] (by decide +kernel) (by decide +kernel)
set_option maxRecDepth 20000 in
theorem gX3_ticks_X3_passTick : GoodIn wsX3_ticks (wsV RX3 137 RX3 yX3_passTick wsX3_passTick) := goodIn_app (goodIn_of _ (by decide +kernel)) ggX3_ticks_X3_passTick
theorem dX3_ticks_0 : decode cX3_ticks 0 = .ok (.iload_n 1, 1) := by decide +kernel
theorem dX3_ticks_1 : decode cX3_ticks 1 = .ok (.iconst 1, 1) := by decide +kernel
theorem dX3_ticks_2 : decode cX3_ticks 2 = .ok (.sipush 20000, 3) := by decide +kernel
theorem dX3_ticks_5 : decode cX3_ticks 5 = .ok (.aload_n 0, 1) := by decide +kernel
theorem dX3_ticks_6 : decode cX3_ticks 6 = .ok (.getfield 95, 3) := by decide +kernel
theorem dX3_ticks_9 : decode cX3_ticks 9 = .ok (.isub, 1) := by decide +kernel
theorem dX3_ticks_10 : decode cX3_ticks 10 = .ok (.invokestatic 72, 3) := by decide +kernel
theorem dX3_ticks_13 : decode cX3_ticks 13 = .ok (.istore_n 2, 1) := by decide +kernel
theorem dX3_ticks_14 : decode cX3_ticks 14 = .ok (.iload_n 2, 1) := by decide +kernel
theorem dX3_ticks_15 : decode cX3_ticks 15 = .ok (.ifCond .eq 9, 3) := by decide +kernel
theorem dX3_ticks_18 : decode cX3_ticks 18 = .ok (.aload_n 0, 1) := by decide +kernel
theorem dX3_ticks_19 : decode cX3_ticks 19 = .ok (.iload_n 2, 1) := by decide +kernel
theorem dX3_ticks_20 : decode cX3_ticks 20 = .ok (.invokevirtual 39, 3) := by decide +kernel
theorem dX3_ticks_23 : decode cX3_ticks 23 = .ok (.ireturn, 1) := by decide +kernel
theorem dX3_ticks_24 : decode cX3_ticks 24 = .ok (.aload_n 0, 1) := by decide +kernel
theorem dX3_ticks_25 : decode cX3_ticks 25 = .ok (.getfield 134, 3) := by decide +kernel
theorem dX3_ticks_28 : decode cX3_ticks 28 = .ok (.istore_n 3, 1) := by decide +kernel
theorem dX3_ticks_29 : decode cX3_ticks 29 = .ok (.iconst 0, 1) := by decide +kernel
theorem dX3_ticks_30 : decode cX3_ticks 30 = .ok (.istore 4, 2) := by decide +kernel
theorem dX3_ticks_32 : decode cX3_ticks 32 = .ok (.iload 4, 2) := by decide +kernel
theorem dX3_ticks_34 : decode cX3_ticks 34 = .ok (.iload_n 1, 1) := by decide +kernel
theorem dX3_ticks_35 : decode cX3_ticks 35 = .ok (.if_icmp .ge 13, 3) := by decide +kernel
theorem dX3_ticks_38 : decode cX3_ticks 38 = .ok (.aload_n 0, 1) := by decide +kernel
theorem dX3_ticks_39 : decode cX3_ticks 39 = .ok (.invokevirtual 137, 3) := by decide +kernel
theorem dX3_ticks_42 : decode cX3_ticks 42 = .ok (.iinc 4 1, 3) := by decide +kernel
theorem dX3_ticks_45 : decode cX3_ticks 45 = .ok (.goto (-13), 3) := by decide +kernel
theorem dX3_ticks_48 : decode cX3_ticks 48 = .ok (.aload_n 0, 1) := by decide +kernel
theorem dX3_ticks_49 : decode cX3_ticks 49 = .ok (.getfield 134, 3) := by decide +kernel
theorem dX3_ticks_52 : decode cX3_ticks 52 = .ok (.iload_n 3, 1) := by decide +kernel
theorem dX3_ticks_53 : decode cX3_ticks 53 = .ok (.isub, 1) := by decide +kernel
theorem dX3_ticks_54 : decode cX3_ticks 54 = .ok (.ireturn, 1) := by decide +kernel
end
section
set_option maxHeartbeats 4000000 in
set_option maxRecDepth 100000 in
theorem k_X3_refuse1 (l : Launch) (dC : Nat → ClassId) (dI : Nat → Nat → Nat) (h0 : Nat) (q1 : Nat) (q2 : Nat) (q3 : Nat) (q4 : Nat) (q5 : Nat) (cI : ClassId) (tk : Int32) (sz : Nat) : Met l yX3_refuse wsX3_refuse ({ frames := 0, cells := 0, slots := 0, locals := 0 }) (va_Pc [.ref h0, .int (-1)] (pzPre (dC, dI) vwCl [(h0, .inr (4, [.ref q1, .ref q2, .ref q3, .ref q4, .ref q5, .int tk, .int 0, .int 3, .int 20, .int 0, .int 0, .int 0, .int 0])), (q5, .inl (cI, 7, .inl (fun _ => 0)))] [(cI, .int)] sz)) (va_Qi (fun (r : Int32) (_ : Unit) => r = (-1)) (fun _ _ => True) (va_A [(h0, .inr (4, [.ref q1, .ref q2, .ref q3, .ref q4, .ref q5, .int tk, .int 0, .int 3, .int 20, .int 0, .int 0, .int 0, .int 0])), (q5, .inl (cI, 7, .inl (fun _ => 0)))] sz)) 0 0 (va_A [(h0, .inr (4, [.ref q1, .ref q2, .ref q3, .ref q4, .ref q5, .int tk, .int 0, .int 3, .int 20, .int 0, .int 0, .int 0, .int 0])), (q5, .inl (cI, 7, .inl (fun _ => 0)))] sz) := by
  refine Met.ofW (cc := cX3_refuse) (maxL := 3) (ret := (some .int)) (by decide) rfl ?_
  intro p e s m args below meth c s₁ B hml hv
  obtain ⟨rfl, hsz, hP, hK, hD0⟩ := hv
  have hx := B.exec
  have hb := B.bytes
  have hr := B.returns
  have hts := atoms_spec (ws := wsX3_refuse) B.pre
  have hown : s.vm.findClass RX3 = some m.cls := findClass_of_methodNamed B.named
  have hlocks := B.notSynchronized
  subst hsz
  have hD := hD0.self (sz := s.heap.size)
  generalize hAe : va_A [(h0, .inr (4, [.ref q1, .ref q2, .ref q3, .ref q4, .ref q5, .int tk, .int 0, .int 3, .int 20, .int 0, .int 0, .int 0, .int 0])), (q5, .inl (cI, 7, .inl (fun _ => 0)))] s.heap.size = A at hD ⊢
  have hA : ∀ q : Nat, s.heap.size ≤ q → A q := fun q h => by rw [← hAe]; exact Or.inr h
  have hS : va_S A s.heap s.heap [] := va_S.rf
  have hP : va_P (dC, dI) vwCl [(h0, .inr (4, [.ref q1, .ref q2, .ref q3, .ref q4, .ref q5, .int tk, .int 0, .int 3, .int 20, .int 0, .int 0, .int 0, .int 0])), (q5, .inl (cI, 7, .inl (fun _ => 0)))] s.heap := hP
  have hl := lv_entry ([.ref h0, .int (-1)]) (n := 3) (Nat.le_of_ble_eq_true rfl)
  rw [lg_entry_eq]
  generalize (lg_sl ([.ref h0, .int (-1)]) ++ List.replicate (3 - (lg_sl ([.ref h0, .int (-1)])).length) Slot.unset).toArray = ls at hl ⊢
  have hl : lv_has ls 3 [(0, .ref h0), (1, .int (-1))] := hl
  refine lv_iload_n hx hb dX3_refuse_0 rfl (lv_at hl 1 rfl) ?_
  refine lv_ineg hx hb dX3_refuse_1 ?_
  refine lv_topi (fun x_1 ex_1 => ?_)
  obtain rfl : x_1 = 1 := ex_1.trans (by decide)
  refine lv_istore_n (lv' := [(2, .int 1), (0, .ref h0), (1, .int (-1))]) hx hb dX3_refuse_2 rfl hl (by decide) rfl (fun ls hl => ?_)
  refine lv_iload_n hx hb dX3_refuse_3 rfl (lv_at hl 0 rfl) ?_
  refine lv_if_lt (tgt := 26) hx hb dX3_refuse_4 (by decide) (fun c_2 => absurd c_2 (by decide)) (fun c_2 => ?_)
  refine lv_iload_n hx hb dX3_refuse_7 rfl (lv_at hl 0 rfl) ?_
  refine lv_aload_n hx hb dX3_refuse_8 rfl (lv_at hl 1 rfl) ?_
  refine va_get (D := (dC, dI)) (ci := 4) (v := .ref q5) (C := RX3) (T := TX3) (N := 13) hx hb hts (fun _ h => List.mem_cons_of_mem _ (List.mem_append_right _ h)) hown hK hP 0 rfl rfl 4 (by decide) (hts (.fieldLink RX3 25 "FrontDoor" "refusals" "[I") (by decide +kernel)) (fun _ h9 => h9) rfl dX3_refuse_9 ?_
  refine va_alen hx hb hK hP 1 0 rfl rfl (v := 7) rfl dX3_refuse_12 ?_
  refine lv_icmp_ge (tgt := 26) hx hb dX3_refuse_13 (by decide) (fun c_3 => absurd c_3 (by decide)) (fun c_3 => ?_)
  refine lv_aload_n hx hb dX3_refuse_16 rfl (lv_at hl 1 rfl) ?_
  refine va_get (D := (dC, dI)) (ci := 4) (v := .ref q5) (C := RX3) (T := TX3) (N := 13) hx hb hts (fun _ h => List.mem_cons_of_mem _ (List.mem_append_right _ h)) hown hK hP 0 rfl rfl 4 (by decide) (hts (.fieldLink RX3 25 "FrontDoor" "refusals" "[I") (by decide +kernel)) (fun _ h9 => h9) rfl dX3_refuse_17 ?_
  refine lv_iload_n hx hb dX3_refuse_20 rfl (lv_at hl 0 rfl) ?_
  refine lv_dup2_11 hx hb dX3_refuse_21 rfl rfl ?_
  refine va_iald hx hb hK hP 1 0 rfl rfl (by unfold vp_in; decide) dX3_refuse_22 ?_
  refine lv_topi (fun x_4 ex_4 => ?_)
  obtain rfl : x_4 = 0 := ex_4.trans (rfl)
  refine lv_iconst (v := 1) hx hb dX3_refuse_23 (by decide) ?_
  refine lv_iadd hx hb dX3_refuse_24 ?_
  refine lv_topi (fun x_5 ex_5 => ?_)
  obtain rfl : x_5 = 1 := ex_5.trans (by decide)
  refine va_iast hx hb hK hP hD hS 1 0 rfl rfl (by unfold vp_in; decide) dX3_refuse_25 (fun H locs hP hD hS => ?_)
  have hP : va_P (dC, dI) vwCl [(h0, .inr (4, [.ref q1, .ref q2, .ref q3, .ref q4, .ref q5, .int tk, .int 0, .int 3, .int 20, .int 0, .int 0, .int 0, .int 0])), (q5, .inl (cI, 7, .inl (upd (fun _ => 0) (Int32.toNatClampNeg 1) 1)))] H := hP
  have hD : va_D A [(h0, .inr (4, [.ref q1, .ref q2, .ref q3, .ref q4, .ref q5, .int tk, .int 0, .int 3, .int 20, .int 0, .int 0, .int 0, .int 0])), (q5, .inl (cI, 7, .inl (upd (fun _ => 0) (Int32.toNatClampNeg 1) 1)))] := hD
  refine lv_iload_n hx hb dX3_refuse_26 rfl (lv_at hl 2 rfl) ?_
  exact W.iret (v := (-1)) hx hb hr (fun t ht hW => ⟨⟨(-1), (), rfl, rfl, trivial⟩, hS.F ht⟩) hS.2.2 dX3_refuse_27

set_option maxHeartbeats 4000000 in
set_option maxRecDepth 100000 in
theorem k_X3_refuse4 (l : Launch) (dC : Nat → ClassId) (dI : Nat → Nat → Nat) (h0 : Nat) (q1 : Nat) (q2 : Nat) (q3 : Nat) (q4 : Nat) (q5 : Nat) (cI : ClassId) (tk : Int32) (sz : Nat) : Met l yX3_refuse wsX3_refuse ({ frames := 0, cells := 0, slots := 0, locals := 0 }) (va_Pc [.ref h0, .int (-4)] (pzPre (dC, dI) vwCl [(h0, .inr (4, [.ref q1, .ref q2, .ref q3, .ref q4, .ref q5, .int tk, .int 0, .int 3, .int 20, .int 0, .int 0, .int 0, .int 0])), (q5, .inl (cI, 7, .inl (fun _ => 0)))] [(cI, .int)] sz)) (va_Qi (fun (r : Int32) (_ : Unit) => r = (-4)) (fun _ _ => True) (va_A [(h0, .inr (4, [.ref q1, .ref q2, .ref q3, .ref q4, .ref q5, .int tk, .int 0, .int 3, .int 20, .int 0, .int 0, .int 0, .int 0])), (q5, .inl (cI, 7, .inl (fun _ => 0)))] sz)) 0 0 (va_A [(h0, .inr (4, [.ref q1, .ref q2, .ref q3, .ref q4, .ref q5, .int tk, .int 0, .int 3, .int 20, .int 0, .int 0, .int 0, .int 0])), (q5, .inl (cI, 7, .inl (fun _ => 0)))] sz) := by
  refine Met.ofW (cc := cX3_refuse) (maxL := 3) (ret := (some .int)) (by decide) rfl ?_
  intro p e s m args below meth c s₁ B hml hv
  obtain ⟨rfl, hsz, hP, hK, hD0⟩ := hv
  have hx := B.exec
  have hb := B.bytes
  have hr := B.returns
  have hts := atoms_spec (ws := wsX3_refuse) B.pre
  have hown : s.vm.findClass RX3 = some m.cls := findClass_of_methodNamed B.named
  have hlocks := B.notSynchronized
  subst hsz
  have hD := hD0.self (sz := s.heap.size)
  generalize hAe : va_A [(h0, .inr (4, [.ref q1, .ref q2, .ref q3, .ref q4, .ref q5, .int tk, .int 0, .int 3, .int 20, .int 0, .int 0, .int 0, .int 0])), (q5, .inl (cI, 7, .inl (fun _ => 0)))] s.heap.size = A at hD ⊢
  have hA : ∀ q : Nat, s.heap.size ≤ q → A q := fun q h => by rw [← hAe]; exact Or.inr h
  have hS : va_S A s.heap s.heap [] := va_S.rf
  have hP : va_P (dC, dI) vwCl [(h0, .inr (4, [.ref q1, .ref q2, .ref q3, .ref q4, .ref q5, .int tk, .int 0, .int 3, .int 20, .int 0, .int 0, .int 0, .int 0])), (q5, .inl (cI, 7, .inl (fun _ => 0)))] s.heap := hP
  have hl := lv_entry ([.ref h0, .int (-4)]) (n := 3) (Nat.le_of_ble_eq_true rfl)
  rw [lg_entry_eq]
  generalize (lg_sl ([.ref h0, .int (-4)]) ++ List.replicate (3 - (lg_sl ([.ref h0, .int (-4)])).length) Slot.unset).toArray = ls at hl ⊢
  have hl : lv_has ls 3 [(0, .ref h0), (1, .int (-4))] := hl
  refine lv_iload_n hx hb dX3_refuse_0 rfl (lv_at hl 1 rfl) ?_
  refine lv_ineg hx hb dX3_refuse_1 ?_
  refine lv_topi (fun x_1 ex_1 => ?_)
  obtain rfl : x_1 = 4 := ex_1.trans (by decide)
  refine lv_istore_n (lv' := [(2, .int 4), (0, .ref h0), (1, .int (-4))]) hx hb dX3_refuse_2 rfl hl (by decide) rfl (fun ls hl => ?_)
  refine lv_iload_n hx hb dX3_refuse_3 rfl (lv_at hl 0 rfl) ?_
  refine lv_if_lt (tgt := 26) hx hb dX3_refuse_4 (by decide) (fun c_2 => absurd c_2 (by decide)) (fun c_2 => ?_)
  refine lv_iload_n hx hb dX3_refuse_7 rfl (lv_at hl 0 rfl) ?_
  refine lv_aload_n hx hb dX3_refuse_8 rfl (lv_at hl 1 rfl) ?_
  refine va_get (D := (dC, dI)) (ci := 4) (v := .ref q5) (C := RX3) (T := TX3) (N := 13) hx hb hts (fun _ h => List.mem_cons_of_mem _ (List.mem_append_right _ h)) hown hK hP 0 rfl rfl 4 (by decide) (hts (.fieldLink RX3 25 "FrontDoor" "refusals" "[I") (by decide +kernel)) (fun _ h9 => h9) rfl dX3_refuse_9 ?_
  refine va_alen hx hb hK hP 1 0 rfl rfl (v := 7) rfl dX3_refuse_12 ?_
  refine lv_icmp_ge (tgt := 26) hx hb dX3_refuse_13 (by decide) (fun c_3 => absurd c_3 (by decide)) (fun c_3 => ?_)
  refine lv_aload_n hx hb dX3_refuse_16 rfl (lv_at hl 1 rfl) ?_
  refine va_get (D := (dC, dI)) (ci := 4) (v := .ref q5) (C := RX3) (T := TX3) (N := 13) hx hb hts (fun _ h => List.mem_cons_of_mem _ (List.mem_append_right _ h)) hown hK hP 0 rfl rfl 4 (by decide) (hts (.fieldLink RX3 25 "FrontDoor" "refusals" "[I") (by decide +kernel)) (fun _ h9 => h9) rfl dX3_refuse_17 ?_
  refine lv_iload_n hx hb dX3_refuse_20 rfl (lv_at hl 0 rfl) ?_
  refine lv_dup2_11 hx hb dX3_refuse_21 rfl rfl ?_
  refine va_iald hx hb hK hP 1 0 rfl rfl (by unfold vp_in; decide) dX3_refuse_22 ?_
  refine lv_topi (fun x_4 ex_4 => ?_)
  obtain rfl : x_4 = 0 := ex_4.trans (rfl)
  refine lv_iconst (v := 1) hx hb dX3_refuse_23 (by decide) ?_
  refine lv_iadd hx hb dX3_refuse_24 ?_
  refine lv_topi (fun x_5 ex_5 => ?_)
  obtain rfl : x_5 = 1 := ex_5.trans (by decide)
  refine va_iast hx hb hK hP hD hS 1 0 rfl rfl (by unfold vp_in; decide) dX3_refuse_25 (fun H locs hP hD hS => ?_)
  have hP : va_P (dC, dI) vwCl [(h0, .inr (4, [.ref q1, .ref q2, .ref q3, .ref q4, .ref q5, .int tk, .int 0, .int 3, .int 20, .int 0, .int 0, .int 0, .int 0])), (q5, .inl (cI, 7, .inl (upd (fun _ => 0) (Int32.toNatClampNeg 4) 1)))] H := hP
  have hD : va_D A [(h0, .inr (4, [.ref q1, .ref q2, .ref q3, .ref q4, .ref q5, .int tk, .int 0, .int 3, .int 20, .int 0, .int 0, .int 0, .int 0])), (q5, .inl (cI, 7, .inl (upd (fun _ => 0) (Int32.toNatClampNeg 4) 1)))] := hD
  refine lv_iload_n hx hb dX3_refuse_26 rfl (lv_at hl 2 rfl) ?_
  exact W.iret (v := (-4)) hx hb hr (fun t ht hW => ⟨⟨(-4), (), rfl, rfl, trivial⟩, hS.F ht⟩) hS.2.2 dX3_refuse_27

set_option maxHeartbeats 4000000 in
set_option maxRecDepth 100000 in
theorem k_X3_refuse6 (l : Launch) (dC : Nat → ClassId) (dI : Nat → Nat → Nat) (h0 : Nat) (q1 : Nat) (q2 : Nat) (q3 : Nat) (q4 : Nat) (q5 : Nat) (cI : ClassId) (tk : Int32) (sz : Nat) : Met l yX3_refuse wsX3_refuse ({ frames := 0, cells := 0, slots := 0, locals := 0 }) (va_Pc [.ref h0, .int (-6)] (pzPre (dC, dI) vwCl [(h0, .inr (4, [.ref q1, .ref q2, .ref q3, .ref q4, .ref q5, .int tk, .int 0, .int 3, .int 20, .int 0, .int 0, .int 0, .int 0])), (q5, .inl (cI, 7, .inl (fun _ => 0)))] [(cI, .int)] sz)) (va_Qi (fun (r : Int32) (_ : Unit) => r = (-6)) (fun _ _ => True) (va_A [(h0, .inr (4, [.ref q1, .ref q2, .ref q3, .ref q4, .ref q5, .int tk, .int 0, .int 3, .int 20, .int 0, .int 0, .int 0, .int 0])), (q5, .inl (cI, 7, .inl (fun _ => 0)))] sz)) 0 0 (va_A [(h0, .inr (4, [.ref q1, .ref q2, .ref q3, .ref q4, .ref q5, .int tk, .int 0, .int 3, .int 20, .int 0, .int 0, .int 0, .int 0])), (q5, .inl (cI, 7, .inl (fun _ => 0)))] sz) := by
  refine Met.ofW (cc := cX3_refuse) (maxL := 3) (ret := (some .int)) (by decide) rfl ?_
  intro p e s m args below meth c s₁ B hml hv
  obtain ⟨rfl, hsz, hP, hK, hD0⟩ := hv
  have hx := B.exec
  have hb := B.bytes
  have hr := B.returns
  have hts := atoms_spec (ws := wsX3_refuse) B.pre
  have hown : s.vm.findClass RX3 = some m.cls := findClass_of_methodNamed B.named
  have hlocks := B.notSynchronized
  subst hsz
  have hD := hD0.self (sz := s.heap.size)
  generalize hAe : va_A [(h0, .inr (4, [.ref q1, .ref q2, .ref q3, .ref q4, .ref q5, .int tk, .int 0, .int 3, .int 20, .int 0, .int 0, .int 0, .int 0])), (q5, .inl (cI, 7, .inl (fun _ => 0)))] s.heap.size = A at hD ⊢
  have hA : ∀ q : Nat, s.heap.size ≤ q → A q := fun q h => by rw [← hAe]; exact Or.inr h
  have hS : va_S A s.heap s.heap [] := va_S.rf
  have hP : va_P (dC, dI) vwCl [(h0, .inr (4, [.ref q1, .ref q2, .ref q3, .ref q4, .ref q5, .int tk, .int 0, .int 3, .int 20, .int 0, .int 0, .int 0, .int 0])), (q5, .inl (cI, 7, .inl (fun _ => 0)))] s.heap := hP
  have hl := lv_entry ([.ref h0, .int (-6)]) (n := 3) (Nat.le_of_ble_eq_true rfl)
  rw [lg_entry_eq]
  generalize (lg_sl ([.ref h0, .int (-6)]) ++ List.replicate (3 - (lg_sl ([.ref h0, .int (-6)])).length) Slot.unset).toArray = ls at hl ⊢
  have hl : lv_has ls 3 [(0, .ref h0), (1, .int (-6))] := hl
  refine lv_iload_n hx hb dX3_refuse_0 rfl (lv_at hl 1 rfl) ?_
  refine lv_ineg hx hb dX3_refuse_1 ?_
  refine lv_topi (fun x_1 ex_1 => ?_)
  obtain rfl : x_1 = 6 := ex_1.trans (by decide)
  refine lv_istore_n (lv' := [(2, .int 6), (0, .ref h0), (1, .int (-6))]) hx hb dX3_refuse_2 rfl hl (by decide) rfl (fun ls hl => ?_)
  refine lv_iload_n hx hb dX3_refuse_3 rfl (lv_at hl 0 rfl) ?_
  refine lv_if_lt (tgt := 26) hx hb dX3_refuse_4 (by decide) (fun c_2 => absurd c_2 (by decide)) (fun c_2 => ?_)
  refine lv_iload_n hx hb dX3_refuse_7 rfl (lv_at hl 0 rfl) ?_
  refine lv_aload_n hx hb dX3_refuse_8 rfl (lv_at hl 1 rfl) ?_
  refine va_get (D := (dC, dI)) (ci := 4) (v := .ref q5) (C := RX3) (T := TX3) (N := 13) hx hb hts (fun _ h => List.mem_cons_of_mem _ (List.mem_append_right _ h)) hown hK hP 0 rfl rfl 4 (by decide) (hts (.fieldLink RX3 25 "FrontDoor" "refusals" "[I") (by decide +kernel)) (fun _ h9 => h9) rfl dX3_refuse_9 ?_
  refine va_alen hx hb hK hP 1 0 rfl rfl (v := 7) rfl dX3_refuse_12 ?_
  refine lv_icmp_ge (tgt := 26) hx hb dX3_refuse_13 (by decide) (fun c_3 => absurd c_3 (by decide)) (fun c_3 => ?_)
  refine lv_aload_n hx hb dX3_refuse_16 rfl (lv_at hl 1 rfl) ?_
  refine va_get (D := (dC, dI)) (ci := 4) (v := .ref q5) (C := RX3) (T := TX3) (N := 13) hx hb hts (fun _ h => List.mem_cons_of_mem _ (List.mem_append_right _ h)) hown hK hP 0 rfl rfl 4 (by decide) (hts (.fieldLink RX3 25 "FrontDoor" "refusals" "[I") (by decide +kernel)) (fun _ h9 => h9) rfl dX3_refuse_17 ?_
  refine lv_iload_n hx hb dX3_refuse_20 rfl (lv_at hl 0 rfl) ?_
  refine lv_dup2_11 hx hb dX3_refuse_21 rfl rfl ?_
  refine va_iald hx hb hK hP 1 0 rfl rfl (by unfold vp_in; decide) dX3_refuse_22 ?_
  refine lv_topi (fun x_4 ex_4 => ?_)
  obtain rfl : x_4 = 0 := ex_4.trans (rfl)
  refine lv_iconst (v := 1) hx hb dX3_refuse_23 (by decide) ?_
  refine lv_iadd hx hb dX3_refuse_24 ?_
  refine lv_topi (fun x_5 ex_5 => ?_)
  obtain rfl : x_5 = 1 := ex_5.trans (by decide)
  refine va_iast hx hb hK hP hD hS 1 0 rfl rfl (by unfold vp_in; decide) dX3_refuse_25 (fun H locs hP hD hS => ?_)
  have hP : va_P (dC, dI) vwCl [(h0, .inr (4, [.ref q1, .ref q2, .ref q3, .ref q4, .ref q5, .int tk, .int 0, .int 3, .int 20, .int 0, .int 0, .int 0, .int 0])), (q5, .inl (cI, 7, .inl (upd (fun _ => 0) (Int32.toNatClampNeg 6) 1)))] H := hP
  have hD : va_D A [(h0, .inr (4, [.ref q1, .ref q2, .ref q3, .ref q4, .ref q5, .int tk, .int 0, .int 3, .int 20, .int 0, .int 0, .int 0, .int 0])), (q5, .inl (cI, 7, .inl (upd (fun _ => 0) (Int32.toNatClampNeg 6) 1)))] := hD
  refine lv_iload_n hx hb dX3_refuse_26 rfl (lv_at hl 2 rfl) ?_
  exact W.iret (v := (-6)) hx hb hr (fun t ht hW => ⟨⟨(-6), (), rfl, rfl, trivial⟩, hS.F ht⟩) hS.2.2 dX3_refuse_27

set_option maxHeartbeats 4000000 in
set_option maxRecDepth 100000 in
theorem k_X3_faultOf (l : Launch) (dC : Nat → ClassId) (dI : Nat → Nat → Nat) (v0 : Int32) (a0 : Int32) (b0 : Int32) (sz : Nat) : Met l yX3_faultOf wsX3_faultOf ({ frames := 0, cells := 0, slots := 0, locals := 0 }) (va_Pc [.int v0, .int a0, .int b0] (pzPre (dC, dI) vwCl [] [] sz)) (va_Qi (fun (r : Int32) (_ : Unit) => (v0.toInt < a0.toInt ∧ r = (-4)) ∨ (a0.toInt ≤ v0.toInt ∧ b0.toInt < v0.toInt ∧ r = (-6)) ∨ (a0.toInt ≤ v0.toInt ∧ v0.toInt ≤ b0.toInt ∧ r = 0)) (fun _ _ => True) (va_A [] sz)) 0 0 (va_A [] sz) := by
  refine Met.ofW (cc := cX3_faultOf) (maxL := 3) (ret := (some .int)) (by decide) rfl ?_
  intro p e s m args below meth c s₁ B hml hv
  obtain ⟨rfl, hsz, hP, hK, hD0⟩ := hv
  have hx := B.exec
  have hb := B.bytes
  have hr := B.returns
  have hts := atoms_spec (ws := wsX3_faultOf) B.pre
  have hown : s.vm.findClass RX3 = some m.cls := findClass_of_methodNamed B.named
  have hlocks := B.notSynchronized
  subst hsz
  have hA : ∀ q : Nat, s.heap.size ≤ q → va_A [] s.heap.size q := fun q h => Or.inr h
  have hD := hD0
  generalize va_A [] s.heap.size = A at hA ⊢
  have hS : va_S A s.heap s.heap [] := va_S.rf
  have hP : va_P (dC, dI) vwCl [] s.heap := hP
  have hl := lv_entry ([.int v0, .int a0, .int b0]) (n := 3) (Nat.le_of_ble_eq_true rfl)
  rw [lg_entry_eq]
  generalize (lg_sl ([.int v0, .int a0, .int b0]) ++ List.replicate (3 - (lg_sl ([.int v0, .int a0, .int b0])).length) Slot.unset).toArray = ls at hl ⊢
  have hl : lv_has ls 3 [(0, .int v0), (1, .int a0), (2, .int b0)] := hl
  refine lv_iload_n hx hb dX3_faultOf_0 rfl (lv_at hl 0 rfl) ?_
  refine lv_iload_n hx hb dX3_faultOf_1 rfl (lv_at hl 1 rfl) ?_
  refine lv_icmp_ge (tgt := 10) hx hb dX3_faultOf_2 (by decide) (fun c_1 => ?_) (fun c_1 => ?_)
  · skip
    have i_1 : a0.toInt ≤ v0.toInt := by have h9 := pz_ge c_1; exact h9
    refine lv_iload_n hx hb dX3_faultOf_10 rfl (lv_at hl 0 rfl) ?_
    refine lv_iload_n hx hb dX3_faultOf_11 rfl (lv_at hl 2 rfl) ?_
    refine lv_icmp_le (tgt := 20) hx hb dX3_faultOf_12 (by decide) (fun c_2 => ?_) (fun c_2 => ?_)
    · skip
      have i_2 : v0.toInt ≤ b0.toInt := by have h9 := pz_le c_2; exact h9
      refine lv_iconst (v := 0) hx hb dX3_faultOf_20 (by decide) ?_
      exact W.iret (v := 0) hx hb hr (fun t ht hW => ⟨⟨0, (), rfl, (Or.inr (Or.inr (⟨(by omega), (by omega), rfl⟩))), trivial⟩, hS.F ht⟩) hS.2.2 dX3_faultOf_21
    · skip
      have i_2 : b0.toInt < v0.toInt := by have h9 := pz_nle c_2; exact h9
      refine lv_bipush (v := (-6)) hx hb dX3_faultOf_15 (by decide) ?_
      refine lv_goto (tgt := 21) hx hb dX3_faultOf_17 (by decide) ?_
      exact W.iret (v := (-6)) hx hb hr (fun t ht hW => ⟨⟨(-6), (), rfl, (Or.inr (Or.inl (⟨(by omega), (by omega), rfl⟩))), trivial⟩, hS.F ht⟩) hS.2.2 dX3_faultOf_21
  · skip
    have i_1 : v0.toInt < a0.toInt := by have h9 := pz_nge c_1; exact h9
    refine lv_bipush (v := (-4)) hx hb dX3_faultOf_5 (by decide) ?_
    refine lv_goto (tgt := 21) hx hb dX3_faultOf_7 (by decide) ?_
    exact W.iret (v := (-4)) hx hb hr (fun t ht hW => ⟨⟨(-4), (), rfl, (Or.inl (⟨(by omega), rfl⟩)), trivial⟩, hS.F ht⟩) hS.2.2 dX3_faultOf_21

set_option maxHeartbeats 4000000 in
set_option maxRecDepth 100000 in
theorem k_X3_serverAt (l : Launch) (dC : Nat → ClassId) (dI : Nat → Nat → Nat) (h0 : Nat) (q1 : Nat) (q2 : Nat) (q3 : Nat) (q4 : Nat) (q5 : Nat) (z : Nat) (tk : Int32) (k0 : Int32) (sz : Nat) : Met l yX3_serverAt wsX3_serverAt ({ frames := 1, cells := 0, slots := 0, locals := 20 }) (va_Pc [.ref h0, .int k0] (pzPre (dC, dI) vwCl [(h0, .inr (4, [.ref q1, .ref q2, .ref q3, .ref q4, .ref q5, .int tk, .int 0, .int 3, .int 20, .int 0, .int 0, .int 0, .int 0])), (q1, .inr (0, [.int 0, .ref z, .int 0]))] [] sz)) (va_Qq (fun (r : Option Nat) (_ : Unit) => r = none) (fun _ _ => True) (va_A [] sz)) 0 0 (va_A [] sz) := by
  refine Met.ofW (cc := cX3_serverAt) (maxL := 2) (ret := (some (.object "FrontDoor$Server"))) (by decide) rfl ?_
  intro p e s m args below meth c s₁ B hml hv
  obtain ⟨rfl, hsz, hP, hK, hD0⟩ := hv
  have hx := B.exec
  have hb := B.bytes
  have hr := B.returns
  have hts := atoms_spec (ws := wsX3_serverAt) B.pre
  have hown : s.vm.findClass RX3 = some m.cls := findClass_of_methodNamed B.named
  have hlocks := B.notSynchronized
  subst hsz
  have hA : ∀ q : Nat, s.heap.size ≤ q → va_A [] s.heap.size q := fun q h => Or.inr h
  have hD := hD0
  generalize va_A [] s.heap.size = A at hA ⊢
  have hS : va_S A s.heap s.heap [] := va_S.rf
  have hP : va_P (dC, dI) vwCl [(h0, .inr (4, [.ref q1, .ref q2, .ref q3, .ref q4, .ref q5, .int tk, .int 0, .int 3, .int 20, .int 0, .int 0, .int 0, .int 0])), (q1, .inr (0, [.int 0, .ref z, .int 0]))] s.heap := hP
  have hl := lv_entry ([.ref h0, .int k0]) (n := 2) (Nat.le_of_ble_eq_true rfl)
  rw [lg_entry_eq]
  generalize (lg_sl ([.ref h0, .int k0]) ++ List.replicate (2 - (lg_sl ([.ref h0, .int k0])).length) Slot.unset).toArray = ls at hl ⊢
  have hl : lv_has ls 2 [(0, .ref h0), (1, .int k0)] := hl
  refine lv_iload_n hx hb dX3_serverAt_0 rfl (lv_at hl 1 rfl) ?_
  refine lv_if_lt (tgt := 15) hx hb dX3_serverAt_1 (by decide) (fun c_1 => ?_) (fun c_1 => ?_)
  · skip
    have i_1 : k0.toInt < 0 := by have h9 := pz_lt c_1; exact h9
    refine lv_null hx hb dX3_serverAt_15 ?_
    refine lv_goto (tgt := 30) hx hb dX3_serverAt_16 (by decide) ?_
    exact W.aret hx hb hr (Or.inl ⟨_, rfl⟩) (Or.inl rfl) (fun t ht hW => ⟨⟨none, (), rfl, rfl, trivial⟩, hS.F ht⟩) hS.2.2 dX3_serverAt_30
  · skip
    have i_1 : 0 ≤ k0.toInt := by have h9 := pz_nlt c_1; exact h9
    refine lv_iload_n hx hb dX3_serverAt_4 rfl (lv_at hl 1 rfl) ?_
    refine lv_aload_n hx hb dX3_serverAt_5 rfl (lv_at hl 0 rfl) ?_
    refine va_get (D := (dC, dI)) (ci := 4) (v := .ref q1) (C := RX3) (T := TX3) (N := 13) hx hb hts (fun _ h => List.mem_cons_of_mem _ (List.mem_append_left _ (List.mem_append_right _ h))) hown hK hP 0 rfl rfl 0 (by decide) (hts (.fieldLink RX3 10 "FrontDoor" "servers" "Ljava/util/ArrayList;") (by decide +kernel)) (fun _ h9 => h9) rfl dX3_serverAt_6 ?_
    have hPc := hP.sub (ws' := [(q1, .inr (0, [.int 0, .ref z, .int 0]))]) [1] rfl
    have hDc := hD.sub (ws' := [(q1, .inr (0, [.int 0, .ref z, .int 0]))]) [1] (by decide) rfl
    have hKc := hK.sub (tys' := []) [] rfl
    have hFc := pz_f hA hS
    refine va_calli (va_runV (As := []) (rest := [.int k0]) ⟨hx, hb, hml, hown, hts⟩ (k_Jx4a65c_size_8abf5 l dC dI q1 z s.heap.size) (cwV 0 hts gX3_serverAt_Jx4a65c_size_8abf5 rfl rfl rfl (by decide +kernel) ⟨Nat.le_of_ble_eq_true rfl, Nat.le_of_ble_eq_true rfl⟩) ⟨pz_blind, va_recv hKc hPc (ci := 0) (q0 := 0) rfl rfl, fun U hU hW => ⟨rfl, pz_at hPc hKc hDc hU hW⟩⟩ rfl rfl hl.1 rfl (lv_room (Nat.le_of_ble_eq_true rfl)) dX3_serverAt_9 ⟨Nat.le_of_ble_eq_true rfl, Nat.le_of_ble_eq_true rfl⟩) hS (fun q _ h => hFc q h) hFc (fun r_2 u t H locs ht hvm hw hB hz1 hk1 hS => ?_)
    have hP := pz_keep hP hk1
    have hw : r_2 = 0 := hw
    subst hw
    refine lv_icmp_lt (tgt := 19) hx hb dX3_serverAt_12 (by decide) (fun c_3 => ?_) (fun c_3 => ?_)
    · skip
      have i_3 : k0.toInt < 0 := by have h9 := pz_lt c_3; exact h9
      exfalso
      omega
    · skip
      have i_3 : 0 ≤ k0.toInt := by have h9 := pz_nlt c_3; exact h9
      refine lv_null hx hb dX3_serverAt_15 ?_
      refine lv_goto (tgt := 30) hx hb dX3_serverAt_16 (by decide) ?_
      exact W.aret hx hb hr (Or.inl ⟨_, rfl⟩) (Or.inl rfl) (fun t ht hW => ⟨⟨none, (), rfl, rfl, trivial⟩, hS.F ht⟩) hS.2.2 dX3_serverAt_30

set_option maxHeartbeats 4000000 in
set_option maxRecDepth 100000 in
theorem k_X3_callAt (l : Launch) (dC : Nat → ClassId) (dI : Nat → Nat → Nat) (h0 : Nat) (q1 : Nat) (q2 : Nat) (q3 : Nat) (q4 : Nat) (q5 : Nat) (z : Nat) (tk : Int32) (k0 : Int32) (sz : Nat) : Met l yX3_callAt wsX3_callAt ({ frames := 1, cells := 0, slots := 0, locals := 20 }) (va_Pc [.ref h0, .int k0] (pzPre (dC, dI) vwCl [(h0, .inr (4, [.ref q1, .ref q2, .ref q3, .ref q4, .ref q5, .int tk, .int 0, .int 3, .int 20, .int 0, .int 0, .int 0, .int 0])), (q2, .inr (0, [.int 0, .ref z, .int 0]))] [] sz)) (va_Qq (fun (r : Option Nat) (_ : Unit) => r = none) (fun _ _ => True) (va_A [] sz)) 0 0 (va_A [] sz) := by
  refine Met.ofW (cc := cX3_callAt) (maxL := 2) (ret := (some (.object "FrontDoor$Call"))) (by decide) rfl ?_
  intro p e s m args below meth c s₁ B hml hv
  obtain ⟨rfl, hsz, hP, hK, hD0⟩ := hv
  have hx := B.exec
  have hb := B.bytes
  have hr := B.returns
  have hts := atoms_spec (ws := wsX3_callAt) B.pre
  have hown : s.vm.findClass RX3 = some m.cls := findClass_of_methodNamed B.named
  have hlocks := B.notSynchronized
  subst hsz
  have hA : ∀ q : Nat, s.heap.size ≤ q → va_A [] s.heap.size q := fun q h => Or.inr h
  have hD := hD0
  generalize va_A [] s.heap.size = A at hA ⊢
  have hS : va_S A s.heap s.heap [] := va_S.rf
  have hP : va_P (dC, dI) vwCl [(h0, .inr (4, [.ref q1, .ref q2, .ref q3, .ref q4, .ref q5, .int tk, .int 0, .int 3, .int 20, .int 0, .int 0, .int 0, .int 0])), (q2, .inr (0, [.int 0, .ref z, .int 0]))] s.heap := hP
  have hl := lv_entry ([.ref h0, .int k0]) (n := 2) (Nat.le_of_ble_eq_true rfl)
  rw [lg_entry_eq]
  generalize (lg_sl ([.ref h0, .int k0]) ++ List.replicate (2 - (lg_sl ([.ref h0, .int k0])).length) Slot.unset).toArray = ls at hl ⊢
  have hl : lv_has ls 2 [(0, .ref h0), (1, .int k0)] := hl
  refine lv_iload_n hx hb dX3_callAt_0 rfl (lv_at hl 1 rfl) ?_
  refine lv_if_lt (tgt := 15) hx hb dX3_callAt_1 (by decide) (fun c_1 => ?_) (fun c_1 => ?_)
  · skip
    have i_1 : k0.toInt < 0 := by have h9 := pz_lt c_1; exact h9
    refine lv_null hx hb dX3_callAt_15 ?_
    refine lv_goto (tgt := 30) hx hb dX3_callAt_16 (by decide) ?_
    exact W.aret hx hb hr (Or.inl ⟨_, rfl⟩) (Or.inl rfl) (fun t ht hW => ⟨⟨none, (), rfl, rfl, trivial⟩, hS.F ht⟩) hS.2.2 dX3_callAt_30
  · skip
    have i_1 : 0 ≤ k0.toInt := by have h9 := pz_nlt c_1; exact h9
    refine lv_iload_n hx hb dX3_callAt_4 rfl (lv_at hl 1 rfl) ?_
    refine lv_aload_n hx hb dX3_callAt_5 rfl (lv_at hl 0 rfl) ?_
    refine va_get (D := (dC, dI)) (ci := 4) (v := .ref q2) (C := RX3) (T := TX3) (N := 13) hx hb hts (fun _ h => List.mem_cons_of_mem _ (List.mem_append_left _ (List.mem_append_right _ h))) hown hK hP 0 rfl rfl 1 (by decide) (hts (.fieldLink RX3 16 "FrontDoor" "calls" "Ljava/util/ArrayList;") (by decide +kernel)) (fun _ h9 => h9) rfl dX3_callAt_6 ?_
    have hPc := hP.sub (ws' := [(q2, .inr (0, [.int 0, .ref z, .int 0]))]) [1] rfl
    have hDc := hD.sub (ws' := [(q2, .inr (0, [.int 0, .ref z, .int 0]))]) [1] (by decide) rfl
    have hKc := hK.sub (tys' := []) [] rfl
    have hFc := pz_f hA hS
    refine va_calli (va_runV (As := []) (rest := [.int k0]) ⟨hx, hb, hml, hown, hts⟩ (k_Jx4a65c_size_8abf5 l dC dI q2 z s.heap.size) (cwV 0 hts gX3_callAt_Jx4a65c_size_8abf5 rfl rfl rfl (by decide +kernel) ⟨Nat.le_of_ble_eq_true rfl, Nat.le_of_ble_eq_true rfl⟩) ⟨pz_blind, va_recv hKc hPc (ci := 0) (q0 := 0) rfl rfl, fun U hU hW => ⟨rfl, pz_at hPc hKc hDc hU hW⟩⟩ rfl rfl hl.1 rfl (lv_room (Nat.le_of_ble_eq_true rfl)) dX3_callAt_9 ⟨Nat.le_of_ble_eq_true rfl, Nat.le_of_ble_eq_true rfl⟩) hS (fun q _ h => hFc q h) hFc (fun r_2 u t H locs ht hvm hw hB hz1 hk1 hS => ?_)
    have hP := pz_keep hP hk1
    have hw : r_2 = 0 := hw
    subst hw
    refine lv_icmp_lt (tgt := 19) hx hb dX3_callAt_12 (by decide) (fun c_3 => ?_) (fun c_3 => ?_)
    · skip
      have i_3 : k0.toInt < 0 := by have h9 := pz_lt c_3; exact h9
      exfalso
      omega
    · skip
      have i_3 : 0 ≤ k0.toInt := by have h9 := pz_nlt c_3; exact h9
      refine lv_null hx hb dX3_callAt_15 ?_
      refine lv_goto (tgt := 30) hx hb dX3_callAt_16 (by decide) ?_
      exact W.aret hx hb hr (Or.inl ⟨_, rfl⟩) (Or.inl rfl) (fun t ht hW => ⟨⟨none, (), rfl, rfl, trivial⟩, hS.F ht⟩) hS.2.2 dX3_callAt_30

set_option maxHeartbeats 4000000 in
set_option maxRecDepth 100000 in
theorem k_X3_set (l : Launch) (dC : Nat → ClassId) (dI : Nat → Nat → Nat) (h0 : Nat) (q1 : Nat) (q2 : Nat) (q3 : Nat) (q4 : Nat) (q5 : Nat) (z : Nat) (cI : ClassId) (tk : Int32) (a1 : Int32) (a2 : Int32) (a3 : Int32) (sz : Nat) : Met l yX3_set wsX3_set ({ frames := 2, cells := 0, slots := 0, locals := 41 }) (va_Pc [.ref h0, .int a1, .int a2, .int a3] (pzPre (dC, dI) vwCl [(h0, .inr (4, [.ref q1, .ref q2, .ref q3, .ref q4, .ref q5, .int tk, .int 0, .int 3, .int 20, .int 0, .int 0, .int 0, .int 0])), (q1, .inr (0, [.int 0, .ref z, .int 0])), (q5, .inl (cI, 7, .inl (fun _ => 0)))] [(cI, .int)] sz)) (va_Qi (fun (r : Int32) (_ : Unit) => r = (-1)) (fun _ _ => True) (va_A [(h0, .inr (4, [.ref q1, .ref q2, .ref q3, .ref q4, .ref q5, .int tk, .int 0, .int 3, .int 20, .int 0, .int 0, .int 0, .int 0])), (q1, .inr (0, [.int 0, .ref z, .int 0])), (q5, .inl (cI, 7, .inl (fun _ => 0)))] sz)) 0 0 (va_A [(h0, .inr (4, [.ref q1, .ref q2, .ref q3, .ref q4, .ref q5, .int tk, .int 0, .int 3, .int 20, .int 0, .int 0, .int 0, .int 0])), (q1, .inr (0, [.int 0, .ref z, .int 0])), (q5, .inl (cI, 7, .inl (fun _ => 0)))] sz) := by
  refine Met.ofW (cc := cX3_set) (maxL := 6) (ret := (some .int)) (by decide) rfl ?_
  intro p e s m args below meth c s₁ B hml hv
  obtain ⟨rfl, hsz, hP, hK, hD0⟩ := hv
  have hx := B.exec
  have hb := B.bytes
  have hr := B.returns
  have hts := atoms_spec (ws := wsX3_set) B.pre
  have hown : s.vm.findClass RX3 = some m.cls := findClass_of_methodNamed B.named
  have hlocks := B.notSynchronized
  subst hsz
  have hD := hD0.self (sz := s.heap.size)
  generalize hAe : va_A [(h0, .inr (4, [.ref q1, .ref q2, .ref q3, .ref q4, .ref q5, .int tk, .int 0, .int 3, .int 20, .int 0, .int 0, .int 0, .int 0])), (q1, .inr (0, [.int 0, .ref z, .int 0])), (q5, .inl (cI, 7, .inl (fun _ => 0)))] s.heap.size = A at hD ⊢
  have hA : ∀ q : Nat, s.heap.size ≤ q → A q := fun q h => by rw [← hAe]; exact Or.inr h
  have hS : va_S A s.heap s.heap [] := va_S.rf
  have hP : va_P (dC, dI) vwCl [(h0, .inr (4, [.ref q1, .ref q2, .ref q3, .ref q4, .ref q5, .int tk, .int 0, .int 3, .int 20, .int 0, .int 0, .int 0, .int 0])), (q1, .inr (0, [.int 0, .ref z, .int 0])), (q5, .inl (cI, 7, .inl (fun _ => 0)))] s.heap := hP
  have hl := lv_entry ([.ref h0, .int a1, .int a2, .int a3]) (n := 6) (Nat.le_of_ble_eq_true rfl)
  rw [lg_entry_eq]
  generalize (lg_sl ([.ref h0, .int a1, .int a2, .int a3]) ++ List.replicate (6 - (lg_sl ([.ref h0, .int a1, .int a2, .int a3])).length) Slot.unset).toArray = ls at hl ⊢
  have hl : lv_has ls 6 [(0, .ref h0), (1, .int a1), (2, .int a2), (3, .int a3)] := hl
  refine lv_aload_n hx hb dX3_set_0 rfl (lv_at hl 0 rfl) ?_
  refine lv_iload_n hx hb dX3_set_1 rfl (lv_at hl 1 rfl) ?_
  have hPc := hP.sub (ws' := [(h0, .inr (4, [.ref q1, .ref q2, .ref q3, .ref q4, .ref q5, .int tk, .int 0, .int 3, .int 20, .int 0, .int 0, .int 0, .int 0])), (q1, .inr (0, [.int 0, .ref z, .int 0]))]) [0, 1] rfl
  have hDc := hD.sub (ws' := [(h0, .inr (4, [.ref q1, .ref q2, .ref q3, .ref q4, .ref q5, .int tk, .int 0, .int 3, .int 20, .int 0, .int 0, .int 0, .int 0])), (q1, .inr (0, [.int 0, .ref z, .int 0]))]) [0, 1] (by decide) rfl
  have hKc := hK.sub (tys' := []) [] rfl
  have hFc := pz_f hA hS
  refine va_callq (va_runV (As := [.int a1]) (rest := []) ⟨hx, hb, hml, hown, hts⟩ (k_X3_serverAt l dC dI h0 q1 q2 q3 q4 q5 z tk a1 s.heap.size) (cwV 1 hts gX3_set_X3_serverAt rfl rfl rfl (by decide +kernel) ⟨Nat.le_of_ble_eq_true rfl, Nat.le_of_ble_eq_true rfl⟩) ⟨pz_blind, va_recv hKc hPc (ci := 4) (q0 := 0) rfl rfl, fun U hU hW => ⟨rfl, pz_at hPc hKc hDc hU hW⟩⟩ rfl rfl hl.1 rfl (lv_room (Nat.le_of_ble_eq_true rfl)) dX3_set_2 ⟨Nat.le_of_ble_eq_true rfl, Nat.le_of_ble_eq_true rfl⟩) hS (fun q _ h => hFc q h) hFc (fun r_1 u t H locs ht hvm hw hB hz1 hk1 hS => ?_)
  have hP := pz_keep hP hk1
  have hw : r_1 = none := hw
  subst hw
  refine W.eq (g2 := F0 m 5 ls [.null]) rfl ?_
  refine lv_astoreN (lv' := [(4, .null), (0, .ref h0), (1, .int a1), (2, .int a2), (3, .int a3)]) hx hb dX3_set_5 hl (by decide) rfl (fun ls hl => ?_)
  refine lv_aloadN hx hb dX3_set_7 (lv_at hl 0 rfl) ?_
  refine lv_ifnonnullN hx hb dX3_set_9 ?_
  refine lv_aload_n hx hb dX3_set_12 rfl (lv_at hl 1 rfl) ?_
  refine lv_iconst (v := (-1)) hx hb dX3_set_13 (by decide) ?_
  have hPc := hP.sub (ws' := [(h0, .inr (4, [.ref q1, .ref q2, .ref q3, .ref q4, .ref q5, .int tk, .int 0, .int 3, .int 20, .int 0, .int 0, .int 0, .int 0])), (q5, .inl (cI, 7, .inl (fun _ => 0)))]) [0, 2] rfl
  have hDc := hD.sub (ws' := [(h0, .inr (4, [.ref q1, .ref q2, .ref q3, .ref q4, .ref q5, .int tk, .int 0, .int 3, .int 20, .int 0, .int 0, .int 0, .int 0])), (q5, .inl (cI, 7, .inl (fun _ => 0)))]) [0, 2] (by decide) rfl
  have hKc := hK.sub (tys' := [(cI, .int)]) [0] rfl
  have hFc := va_free (wc := [(h0, .inr (4, [.ref q1, .ref q2, .ref q3, .ref q4, .ref q5, .int tk, .int 0, .int 3, .int 20, .int 0, .int 0, .int 0, .int 0])), (q5, .inl (cI, 7, .inl (fun _ => 0)))]) hD hS hA [0, 2] rfl
  refine va_calli (va_runV (As := [.int (-1)]) (rest := []) ⟨hx, hb, hml, hown, hts⟩ (k_X3_refuse1 l dC dI h0 q1 q2 q3 q4 q5 cI tk H.size) (cwV 1 hts gX3_set_X3_refuse rfl rfl rfl (by decide +kernel) ⟨Nat.le_of_ble_eq_true rfl, Nat.le_of_ble_eq_true rfl⟩) ⟨pz_blind, va_recv hKc hPc (ci := 4) (q0 := 0) rfl rfl, fun U hU hW => ⟨rfl, pz_at hPc hKc hDc hU hW⟩⟩ rfl rfl hl.1 rfl (lv_room (Nat.le_of_ble_eq_true rfl)) dX3_set_14 ⟨Nat.le_of_ble_eq_true rfl, Nat.le_of_ble_eq_true rfl⟩) hS (fun q _ h => hFc q h) hFc (fun r_2 u t H locs ht hvm hw hB hz1 hk1 hS => ?_)
  obtain ⟨hP, hD⟩ := va_join (wr := [(q1, .inr (0, [.int 0, .ref z, .int 0]))]) (w1 := []) hP hD [0, 2] [1] rfl rfl (by decide) (by decide) hk1 hFc pz_nilP pz_nilD
  have hP : va_P (dC, dI) vwCl [(q1, .inr (0, [.int 0, .ref z, .int 0]))] H := hP
  have hD : va_D A [(q1, .inr (0, [.int 0, .ref z, .int 0]))] := hD
  have hw : r_2 = (-1) := hw
  subst hw
  exact W.iret (v := (-1)) hx hb hr (fun t ht hW => ⟨⟨(-1), (), rfl, rfl, trivial⟩, hS.F ht⟩) hS.2.2 dX3_set_17

set_option maxHeartbeats 4000000 in
set_option maxRecDepth 100000 in
theorem k_X3_drain (l : Launch) (dC : Nat → ClassId) (dI : Nat → Nat → Nat) (h0 : Nat) (q1 : Nat) (q2 : Nat) (q3 : Nat) (q4 : Nat) (q5 : Nat) (z : Nat) (cI : ClassId) (tk : Int32) (a1 : Int32) (sz : Nat) : Met l yX3_drain wsX3_drain ({ frames := 2, cells := 0, slots := 0, locals := 41 }) (va_Pc [.ref h0, .int a1] (pzPre (dC, dI) vwCl [(h0, .inr (4, [.ref q1, .ref q2, .ref q3, .ref q4, .ref q5, .int tk, .int 0, .int 3, .int 20, .int 0, .int 0, .int 0, .int 0])), (q1, .inr (0, [.int 0, .ref z, .int 0])), (q5, .inl (cI, 7, .inl (fun _ => 0)))] [(cI, .int)] sz)) (va_Qi (fun (r : Int32) (_ : Unit) => r = (-1)) (fun _ _ => True) (va_A [(h0, .inr (4, [.ref q1, .ref q2, .ref q3, .ref q4, .ref q5, .int tk, .int 0, .int 3, .int 20, .int 0, .int 0, .int 0, .int 0])), (q1, .inr (0, [.int 0, .ref z, .int 0])), (q5, .inl (cI, 7, .inl (fun _ => 0)))] sz)) 0 0 (va_A [(h0, .inr (4, [.ref q1, .ref q2, .ref q3, .ref q4, .ref q5, .int tk, .int 0, .int 3, .int 20, .int 0, .int 0, .int 0, .int 0])), (q1, .inr (0, [.int 0, .ref z, .int 0])), (q5, .inl (cI, 7, .inl (fun _ => 0)))] sz) := by
  refine Met.ofW (cc := cX3_drain) (maxL := 3) (ret := (some .int)) (by decide) rfl ?_
  intro p e s m args below meth c s₁ B hml hv
  obtain ⟨rfl, hsz, hP, hK, hD0⟩ := hv
  have hx := B.exec
  have hb := B.bytes
  have hr := B.returns
  have hts := atoms_spec (ws := wsX3_drain) B.pre
  have hown : s.vm.findClass RX3 = some m.cls := findClass_of_methodNamed B.named
  have hlocks := B.notSynchronized
  subst hsz
  have hD := hD0.self (sz := s.heap.size)
  generalize hAe : va_A [(h0, .inr (4, [.ref q1, .ref q2, .ref q3, .ref q4, .ref q5, .int tk, .int 0, .int 3, .int 20, .int 0, .int 0, .int 0, .int 0])), (q1, .inr (0, [.int 0, .ref z, .int 0])), (q5, .inl (cI, 7, .inl (fun _ => 0)))] s.heap.size = A at hD ⊢
  have hA : ∀ q : Nat, s.heap.size ≤ q → A q := fun q h => by rw [← hAe]; exact Or.inr h
  have hS : va_S A s.heap s.heap [] := va_S.rf
  have hP : va_P (dC, dI) vwCl [(h0, .inr (4, [.ref q1, .ref q2, .ref q3, .ref q4, .ref q5, .int tk, .int 0, .int 3, .int 20, .int 0, .int 0, .int 0, .int 0])), (q1, .inr (0, [.int 0, .ref z, .int 0])), (q5, .inl (cI, 7, .inl (fun _ => 0)))] s.heap := hP
  have hl := lv_entry ([.ref h0, .int a1]) (n := 3) (Nat.le_of_ble_eq_true rfl)
  rw [lg_entry_eq]
  generalize (lg_sl ([.ref h0, .int a1]) ++ List.replicate (3 - (lg_sl ([.ref h0, .int a1])).length) Slot.unset).toArray = ls at hl ⊢
  have hl : lv_has ls 3 [(0, .ref h0), (1, .int a1)] := hl
  refine lv_aload_n hx hb dX3_drain_0 rfl (lv_at hl 0 rfl) ?_
  refine lv_iload_n hx hb dX3_drain_1 rfl (lv_at hl 1 rfl) ?_
  have hPc := hP.sub (ws' := [(h0, .inr (4, [.ref q1, .ref q2, .ref q3, .ref q4, .ref q5, .int tk, .int 0, .int 3, .int 20, .int 0, .int 0, .int 0, .int 0])), (q1, .inr (0, [.int 0, .ref z, .int 0]))]) [0, 1] rfl
  have hDc := hD.sub (ws' := [(h0, .inr (4, [.ref q1, .ref q2, .ref q3, .ref q4, .ref q5, .int tk, .int 0, .int 3, .int 20, .int 0, .int 0, .int 0, .int 0])), (q1, .inr (0, [.int 0, .ref z, .int 0]))]) [0, 1] (by decide) rfl
  have hKc := hK.sub (tys' := []) [] rfl
  have hFc := pz_f hA hS
  refine va_callq (va_runV (As := [.int a1]) (rest := []) ⟨hx, hb, hml, hown, hts⟩ (k_X3_serverAt l dC dI h0 q1 q2 q3 q4 q5 z tk a1 s.heap.size) (cwV 1 hts gX3_drain_X3_serverAt rfl rfl rfl (by decide +kernel) ⟨Nat.le_of_ble_eq_true rfl, Nat.le_of_ble_eq_true rfl⟩) ⟨pz_blind, va_recv hKc hPc (ci := 4) (q0 := 0) rfl rfl, fun U hU hW => ⟨rfl, pz_at hPc hKc hDc hU hW⟩⟩ rfl rfl hl.1 rfl (lv_room (Nat.le_of_ble_eq_true rfl)) dX3_drain_2 ⟨Nat.le_of_ble_eq_true rfl, Nat.le_of_ble_eq_true rfl⟩) hS (fun q _ h => hFc q h) hFc (fun r_1 u t H locs ht hvm hw hB hz1 hk1 hS => ?_)
  have hP := pz_keep hP hk1
  have hw : r_1 = none := hw
  subst hw
  refine W.eq (g2 := F0 m 5 ls [.null]) rfl ?_
  refine lv_astore_nN (lv' := [(2, .null), (0, .ref h0), (1, .int a1)]) hx hb dX3_drain_5 rfl hl (by decide) rfl (fun ls hl => ?_)
  refine lv_aload_nN hx hb dX3_drain_6 rfl (lv_at hl 0 rfl) ?_
  refine lv_ifnonnullN hx hb dX3_drain_7 ?_
  refine lv_aload_n hx hb dX3_drain_10 rfl (lv_at hl 1 rfl) ?_
  refine lv_iconst (v := (-1)) hx hb dX3_drain_11 (by decide) ?_
  have hPc := hP.sub (ws' := [(h0, .inr (4, [.ref q1, .ref q2, .ref q3, .ref q4, .ref q5, .int tk, .int 0, .int 3, .int 20, .int 0, .int 0, .int 0, .int 0])), (q5, .inl (cI, 7, .inl (fun _ => 0)))]) [0, 2] rfl
  have hDc := hD.sub (ws' := [(h0, .inr (4, [.ref q1, .ref q2, .ref q3, .ref q4, .ref q5, .int tk, .int 0, .int 3, .int 20, .int 0, .int 0, .int 0, .int 0])), (q5, .inl (cI, 7, .inl (fun _ => 0)))]) [0, 2] (by decide) rfl
  have hKc := hK.sub (tys' := [(cI, .int)]) [0] rfl
  have hFc := va_free (wc := [(h0, .inr (4, [.ref q1, .ref q2, .ref q3, .ref q4, .ref q5, .int tk, .int 0, .int 3, .int 20, .int 0, .int 0, .int 0, .int 0])), (q5, .inl (cI, 7, .inl (fun _ => 0)))]) hD hS hA [0, 2] rfl
  refine va_calli (va_runV (As := [.int (-1)]) (rest := []) ⟨hx, hb, hml, hown, hts⟩ (k_X3_refuse1 l dC dI h0 q1 q2 q3 q4 q5 cI tk H.size) (cwV 1 hts gX3_drain_X3_refuse rfl rfl rfl (by decide +kernel) ⟨Nat.le_of_ble_eq_true rfl, Nat.le_of_ble_eq_true rfl⟩) ⟨pz_blind, va_recv hKc hPc (ci := 4) (q0 := 0) rfl rfl, fun U hU hW => ⟨rfl, pz_at hPc hKc hDc hU hW⟩⟩ rfl rfl hl.1 rfl (lv_room (Nat.le_of_ble_eq_true rfl)) dX3_drain_12 ⟨Nat.le_of_ble_eq_true rfl, Nat.le_of_ble_eq_true rfl⟩) hS (fun q _ h => hFc q h) hFc (fun r_2 u t H locs ht hvm hw hB hz1 hk1 hS => ?_)
  obtain ⟨hP, hD⟩ := va_join (wr := [(q1, .inr (0, [.int 0, .ref z, .int 0]))]) (w1 := []) hP hD [0, 2] [1] rfl rfl (by decide) (by decide) hk1 hFc pz_nilP pz_nilD
  have hP : va_P (dC, dI) vwCl [(q1, .inr (0, [.int 0, .ref z, .int 0]))] H := hP
  have hD : va_D A [(q1, .inr (0, [.int 0, .ref z, .int 0]))] := hD
  have hw : r_2 = (-1) := hw
  subst hw
  exact W.iret (v := (-1)) hx hb hr (fun t ht hW => ⟨⟨(-1), (), rfl, rfl, trivial⟩, hS.F ht⟩) hS.2.2 dX3_drain_15

set_option maxHeartbeats 4000000 in
set_option maxRecDepth 100000 in
theorem k_X3_back (l : Launch) (dC : Nat → ClassId) (dI : Nat → Nat → Nat) (h0 : Nat) (q1 : Nat) (q2 : Nat) (q3 : Nat) (q4 : Nat) (q5 : Nat) (z : Nat) (cI : ClassId) (tk : Int32) (a1 : Int32) (sz : Nat) : Met l yX3_back wsX3_back ({ frames := 2, cells := 0, slots := 0, locals := 41 }) (va_Pc [.ref h0, .int a1] (pzPre (dC, dI) vwCl [(h0, .inr (4, [.ref q1, .ref q2, .ref q3, .ref q4, .ref q5, .int tk, .int 0, .int 3, .int 20, .int 0, .int 0, .int 0, .int 0])), (q1, .inr (0, [.int 0, .ref z, .int 0])), (q5, .inl (cI, 7, .inl (fun _ => 0)))] [(cI, .int)] sz)) (va_Qi (fun (r : Int32) (_ : Unit) => r = (-1)) (fun _ _ => True) (va_A [(h0, .inr (4, [.ref q1, .ref q2, .ref q3, .ref q4, .ref q5, .int tk, .int 0, .int 3, .int 20, .int 0, .int 0, .int 0, .int 0])), (q1, .inr (0, [.int 0, .ref z, .int 0])), (q5, .inl (cI, 7, .inl (fun _ => 0)))] sz)) 0 0 (va_A [(h0, .inr (4, [.ref q1, .ref q2, .ref q3, .ref q4, .ref q5, .int tk, .int 0, .int 3, .int 20, .int 0, .int 0, .int 0, .int 0])), (q1, .inr (0, [.int 0, .ref z, .int 0])), (q5, .inl (cI, 7, .inl (fun _ => 0)))] sz) := by
  refine Met.ofW (cc := cX3_back) (maxL := 3) (ret := (some .int)) (by decide) rfl ?_
  intro p e s m args below meth c s₁ B hml hv
  obtain ⟨rfl, hsz, hP, hK, hD0⟩ := hv
  have hx := B.exec
  have hb := B.bytes
  have hr := B.returns
  have hts := atoms_spec (ws := wsX3_back) B.pre
  have hown : s.vm.findClass RX3 = some m.cls := findClass_of_methodNamed B.named
  have hlocks := B.notSynchronized
  subst hsz
  have hD := hD0.self (sz := s.heap.size)
  generalize hAe : va_A [(h0, .inr (4, [.ref q1, .ref q2, .ref q3, .ref q4, .ref q5, .int tk, .int 0, .int 3, .int 20, .int 0, .int 0, .int 0, .int 0])), (q1, .inr (0, [.int 0, .ref z, .int 0])), (q5, .inl (cI, 7, .inl (fun _ => 0)))] s.heap.size = A at hD ⊢
  have hA : ∀ q : Nat, s.heap.size ≤ q → A q := fun q h => by rw [← hAe]; exact Or.inr h
  have hS : va_S A s.heap s.heap [] := va_S.rf
  have hP : va_P (dC, dI) vwCl [(h0, .inr (4, [.ref q1, .ref q2, .ref q3, .ref q4, .ref q5, .int tk, .int 0, .int 3, .int 20, .int 0, .int 0, .int 0, .int 0])), (q1, .inr (0, [.int 0, .ref z, .int 0])), (q5, .inl (cI, 7, .inl (fun _ => 0)))] s.heap := hP
  have hl := lv_entry ([.ref h0, .int a1]) (n := 3) (Nat.le_of_ble_eq_true rfl)
  rw [lg_entry_eq]
  generalize (lg_sl ([.ref h0, .int a1]) ++ List.replicate (3 - (lg_sl ([.ref h0, .int a1])).length) Slot.unset).toArray = ls at hl ⊢
  have hl : lv_has ls 3 [(0, .ref h0), (1, .int a1)] := hl
  refine lv_aload_n hx hb dX3_back_0 rfl (lv_at hl 0 rfl) ?_
  refine lv_iload_n hx hb dX3_back_1 rfl (lv_at hl 1 rfl) ?_
  have hPc := hP.sub (ws' := [(h0, .inr (4, [.ref q1, .ref q2, .ref q3, .ref q4, .ref q5, .int tk, .int 0, .int 3, .int 20, .int 0, .int 0, .int 0, .int 0])), (q1, .inr (0, [.int 0, .ref z, .int 0]))]) [0, 1] rfl
  have hDc := hD.sub (ws' := [(h0, .inr (4, [.ref q1, .ref q2, .ref q3, .ref q4, .ref q5, .int tk, .int 0, .int 3, .int 20, .int 0, .int 0, .int 0, .int 0])), (q1, .inr (0, [.int 0, .ref z, .int 0]))]) [0, 1] (by decide) rfl
  have hKc := hK.sub (tys' := []) [] rfl
  have hFc := pz_f hA hS
  refine va_callq (va_runV (As := [.int a1]) (rest := []) ⟨hx, hb, hml, hown, hts⟩ (k_X3_serverAt l dC dI h0 q1 q2 q3 q4 q5 z tk a1 s.heap.size) (cwV 1 hts gX3_back_X3_serverAt rfl rfl rfl (by decide +kernel) ⟨Nat.le_of_ble_eq_true rfl, Nat.le_of_ble_eq_true rfl⟩) ⟨pz_blind, va_recv hKc hPc (ci := 4) (q0 := 0) rfl rfl, fun U hU hW => ⟨rfl, pz_at hPc hKc hDc hU hW⟩⟩ rfl rfl hl.1 rfl (lv_room (Nat.le_of_ble_eq_true rfl)) dX3_back_2 ⟨Nat.le_of_ble_eq_true rfl, Nat.le_of_ble_eq_true rfl⟩) hS (fun q _ h => hFc q h) hFc (fun r_1 u t H locs ht hvm hw hB hz1 hk1 hS => ?_)
  have hP := pz_keep hP hk1
  have hw : r_1 = none := hw
  subst hw
  refine W.eq (g2 := F0 m 5 ls [.null]) rfl ?_
  refine lv_astore_nN (lv' := [(2, .null), (0, .ref h0), (1, .int a1)]) hx hb dX3_back_5 rfl hl (by decide) rfl (fun ls hl => ?_)
  refine lv_aload_nN hx hb dX3_back_6 rfl (lv_at hl 0 rfl) ?_
  refine lv_ifnonnullN hx hb dX3_back_7 ?_
  refine lv_aload_n hx hb dX3_back_10 rfl (lv_at hl 1 rfl) ?_
  refine lv_iconst (v := (-1)) hx hb dX3_back_11 (by decide) ?_
  have hPc := hP.sub (ws' := [(h0, .inr (4, [.ref q1, .ref q2, .ref q3, .ref q4, .ref q5, .int tk, .int 0, .int 3, .int 20, .int 0, .int 0, .int 0, .int 0])), (q5, .inl (cI, 7, .inl (fun _ => 0)))]) [0, 2] rfl
  have hDc := hD.sub (ws' := [(h0, .inr (4, [.ref q1, .ref q2, .ref q3, .ref q4, .ref q5, .int tk, .int 0, .int 3, .int 20, .int 0, .int 0, .int 0, .int 0])), (q5, .inl (cI, 7, .inl (fun _ => 0)))]) [0, 2] (by decide) rfl
  have hKc := hK.sub (tys' := [(cI, .int)]) [0] rfl
  have hFc := va_free (wc := [(h0, .inr (4, [.ref q1, .ref q2, .ref q3, .ref q4, .ref q5, .int tk, .int 0, .int 3, .int 20, .int 0, .int 0, .int 0, .int 0])), (q5, .inl (cI, 7, .inl (fun _ => 0)))]) hD hS hA [0, 2] rfl
  refine va_calli (va_runV (As := [.int (-1)]) (rest := []) ⟨hx, hb, hml, hown, hts⟩ (k_X3_refuse1 l dC dI h0 q1 q2 q3 q4 q5 cI tk H.size) (cwV 1 hts gX3_back_X3_refuse rfl rfl rfl (by decide +kernel) ⟨Nat.le_of_ble_eq_true rfl, Nat.le_of_ble_eq_true rfl⟩) ⟨pz_blind, va_recv hKc hPc (ci := 4) (q0 := 0) rfl rfl, fun U hU hW => ⟨rfl, pz_at hPc hKc hDc hU hW⟩⟩ rfl rfl hl.1 rfl (lv_room (Nat.le_of_ble_eq_true rfl)) dX3_back_12 ⟨Nat.le_of_ble_eq_true rfl, Nat.le_of_ble_eq_true rfl⟩) hS (fun q _ h => hFc q h) hFc (fun r_2 u t H locs ht hvm hw hB hz1 hk1 hS => ?_)
  obtain ⟨hP, hD⟩ := va_join (wr := [(q1, .inr (0, [.int 0, .ref z, .int 0]))]) (w1 := []) hP hD [0, 2] [1] rfl rfl (by decide) (by decide) hk1 hFc pz_nilP pz_nilD
  have hP : va_P (dC, dI) vwCl [(q1, .inr (0, [.int 0, .ref z, .int 0]))] H := hP
  have hD : va_D A [(q1, .inr (0, [.int 0, .ref z, .int 0]))] := hD
  have hw : r_2 = (-1) := hw
  subst hw
  exact W.iret (v := (-1)) hx hb hr (fun t ht hW => ⟨⟨(-1), (), rfl, rfl, trivial⟩, hS.F ht⟩) hS.2.2 dX3_back_15

set_option maxHeartbeats 4000000 in
set_option maxRecDepth 100000 in
theorem k_X3_off (l : Launch) (dC : Nat → ClassId) (dI : Nat → Nat → Nat) (h0 : Nat) (q1 : Nat) (q2 : Nat) (q3 : Nat) (q4 : Nat) (q5 : Nat) (z : Nat) (cI : ClassId) (tk : Int32) (a1 : Int32) (sz : Nat) : Met l yX3_off wsX3_off ({ frames := 2, cells := 0, slots := 0, locals := 41 }) (va_Pc [.ref h0, .int a1] (pzPre (dC, dI) vwCl [(h0, .inr (4, [.ref q1, .ref q2, .ref q3, .ref q4, .ref q5, .int tk, .int 0, .int 3, .int 20, .int 0, .int 0, .int 0, .int 0])), (q2, .inr (0, [.int 0, .ref z, .int 0])), (q5, .inl (cI, 7, .inl (fun _ => 0)))] [(cI, .int)] sz)) (va_Qi (fun (r : Int32) (_ : Unit) => r = (-1)) (fun _ _ => True) (va_A [(h0, .inr (4, [.ref q1, .ref q2, .ref q3, .ref q4, .ref q5, .int tk, .int 0, .int 3, .int 20, .int 0, .int 0, .int 0, .int 0])), (q2, .inr (0, [.int 0, .ref z, .int 0])), (q5, .inl (cI, 7, .inl (fun _ => 0)))] sz)) 0 0 (va_A [(h0, .inr (4, [.ref q1, .ref q2, .ref q3, .ref q4, .ref q5, .int tk, .int 0, .int 3, .int 20, .int 0, .int 0, .int 0, .int 0])), (q2, .inr (0, [.int 0, .ref z, .int 0])), (q5, .inl (cI, 7, .inl (fun _ => 0)))] sz) := by
  refine Met.ofW (cc := cX3_off) (maxL := 3) (ret := (some .int)) (by decide) rfl ?_
  intro p e s m args below meth c s₁ B hml hv
  obtain ⟨rfl, hsz, hP, hK, hD0⟩ := hv
  have hx := B.exec
  have hb := B.bytes
  have hr := B.returns
  have hts := atoms_spec (ws := wsX3_off) B.pre
  have hown : s.vm.findClass RX3 = some m.cls := findClass_of_methodNamed B.named
  have hlocks := B.notSynchronized
  subst hsz
  have hD := hD0.self (sz := s.heap.size)
  generalize hAe : va_A [(h0, .inr (4, [.ref q1, .ref q2, .ref q3, .ref q4, .ref q5, .int tk, .int 0, .int 3, .int 20, .int 0, .int 0, .int 0, .int 0])), (q2, .inr (0, [.int 0, .ref z, .int 0])), (q5, .inl (cI, 7, .inl (fun _ => 0)))] s.heap.size = A at hD ⊢
  have hA : ∀ q : Nat, s.heap.size ≤ q → A q := fun q h => by rw [← hAe]; exact Or.inr h
  have hS : va_S A s.heap s.heap [] := va_S.rf
  have hP : va_P (dC, dI) vwCl [(h0, .inr (4, [.ref q1, .ref q2, .ref q3, .ref q4, .ref q5, .int tk, .int 0, .int 3, .int 20, .int 0, .int 0, .int 0, .int 0])), (q2, .inr (0, [.int 0, .ref z, .int 0])), (q5, .inl (cI, 7, .inl (fun _ => 0)))] s.heap := hP
  have hl := lv_entry ([.ref h0, .int a1]) (n := 3) (Nat.le_of_ble_eq_true rfl)
  rw [lg_entry_eq]
  generalize (lg_sl ([.ref h0, .int a1]) ++ List.replicate (3 - (lg_sl ([.ref h0, .int a1])).length) Slot.unset).toArray = ls at hl ⊢
  have hl : lv_has ls 3 [(0, .ref h0), (1, .int a1)] := hl
  refine lv_aload_n hx hb dX3_off_0 rfl (lv_at hl 0 rfl) ?_
  refine lv_iload_n hx hb dX3_off_1 rfl (lv_at hl 1 rfl) ?_
  have hPc := hP.sub (ws' := [(h0, .inr (4, [.ref q1, .ref q2, .ref q3, .ref q4, .ref q5, .int tk, .int 0, .int 3, .int 20, .int 0, .int 0, .int 0, .int 0])), (q2, .inr (0, [.int 0, .ref z, .int 0]))]) [0, 1] rfl
  have hDc := hD.sub (ws' := [(h0, .inr (4, [.ref q1, .ref q2, .ref q3, .ref q4, .ref q5, .int tk, .int 0, .int 3, .int 20, .int 0, .int 0, .int 0, .int 0])), (q2, .inr (0, [.int 0, .ref z, .int 0]))]) [0, 1] (by decide) rfl
  have hKc := hK.sub (tys' := []) [] rfl
  have hFc := pz_f hA hS
  refine va_callq (va_runV (As := [.int a1]) (rest := []) ⟨hx, hb, hml, hown, hts⟩ (k_X3_callAt l dC dI h0 q1 q2 q3 q4 q5 z tk a1 s.heap.size) (cwV 1 hts gX3_off_X3_callAt rfl rfl rfl (by decide +kernel) ⟨Nat.le_of_ble_eq_true rfl, Nat.le_of_ble_eq_true rfl⟩) ⟨pz_blind, va_recv hKc hPc (ci := 4) (q0 := 0) rfl rfl, fun U hU hW => ⟨rfl, pz_at hPc hKc hDc hU hW⟩⟩ rfl rfl hl.1 rfl (lv_room (Nat.le_of_ble_eq_true rfl)) dX3_off_2 ⟨Nat.le_of_ble_eq_true rfl, Nat.le_of_ble_eq_true rfl⟩) hS (fun q _ h => hFc q h) hFc (fun r_1 u t H locs ht hvm hw hB hz1 hk1 hS => ?_)
  have hP := pz_keep hP hk1
  have hw : r_1 = none := hw
  subst hw
  refine W.eq (g2 := F0 m 5 ls [.null]) rfl ?_
  refine lv_astore_nN (lv' := [(2, .null), (0, .ref h0), (1, .int a1)]) hx hb dX3_off_5 rfl hl (by decide) rfl (fun ls hl => ?_)
  refine lv_aload_nN hx hb dX3_off_6 rfl (lv_at hl 0 rfl) ?_
  refine lv_ifnonnullN hx hb dX3_off_7 ?_
  refine lv_aload_n hx hb dX3_off_10 rfl (lv_at hl 1 rfl) ?_
  refine lv_iconst (v := (-1)) hx hb dX3_off_11 (by decide) ?_
  have hPc := hP.sub (ws' := [(h0, .inr (4, [.ref q1, .ref q2, .ref q3, .ref q4, .ref q5, .int tk, .int 0, .int 3, .int 20, .int 0, .int 0, .int 0, .int 0])), (q5, .inl (cI, 7, .inl (fun _ => 0)))]) [0, 2] rfl
  have hDc := hD.sub (ws' := [(h0, .inr (4, [.ref q1, .ref q2, .ref q3, .ref q4, .ref q5, .int tk, .int 0, .int 3, .int 20, .int 0, .int 0, .int 0, .int 0])), (q5, .inl (cI, 7, .inl (fun _ => 0)))]) [0, 2] (by decide) rfl
  have hKc := hK.sub (tys' := [(cI, .int)]) [0] rfl
  have hFc := va_free (wc := [(h0, .inr (4, [.ref q1, .ref q2, .ref q3, .ref q4, .ref q5, .int tk, .int 0, .int 3, .int 20, .int 0, .int 0, .int 0, .int 0])), (q5, .inl (cI, 7, .inl (fun _ => 0)))]) hD hS hA [0, 2] rfl
  refine va_calli (va_runV (As := [.int (-1)]) (rest := []) ⟨hx, hb, hml, hown, hts⟩ (k_X3_refuse1 l dC dI h0 q1 q2 q3 q4 q5 cI tk H.size) (cwV 1 hts gX3_off_X3_refuse rfl rfl rfl (by decide +kernel) ⟨Nat.le_of_ble_eq_true rfl, Nat.le_of_ble_eq_true rfl⟩) ⟨pz_blind, va_recv hKc hPc (ci := 4) (q0 := 0) rfl rfl, fun U hU hW => ⟨rfl, pz_at hPc hKc hDc hU hW⟩⟩ rfl rfl hl.1 rfl (lv_room (Nat.le_of_ble_eq_true rfl)) dX3_off_12 ⟨Nat.le_of_ble_eq_true rfl, Nat.le_of_ble_eq_true rfl⟩) hS (fun q _ h => hFc q h) hFc (fun r_2 u t H locs ht hvm hw hB hz1 hk1 hS => ?_)
  obtain ⟨hP, hD⟩ := va_join (wr := [(q2, .inr (0, [.int 0, .ref z, .int 0]))]) (w1 := []) hP hD [0, 2] [1] rfl rfl (by decide) (by decide) hk1 hFc pz_nilP pz_nilD
  have hP : va_P (dC, dI) vwCl [(q2, .inr (0, [.int 0, .ref z, .int 0]))] H := hP
  have hD : va_D A [(q2, .inr (0, [.int 0, .ref z, .int 0]))] := hD
  have hw : r_2 = (-1) := hw
  subst hw
  exact W.iret (v := (-1)) hx hb hr (fun t ht hW => ⟨⟨(-1), (), rfl, rfl, trivial⟩, hS.F ht⟩) hS.2.2 dX3_off_15

set_option maxHeartbeats 4000000 in
set_option maxRecDepth 100000 in
theorem k_X3_callOf (l : Launch) (dC : Nat → ClassId) (dI : Nat → Nat → Nat) (h0 : Nat) (q1 : Nat) (q2 : Nat) (q3 : Nat) (q4 : Nat) (q5 : Nat) (z : Nat) (cI : ClassId) (tk : Int32) (a1 : Int32) (a2 : Int32) (sz : Nat) : Met l yX3_callOf wsX3_callOf ({ frames := 2, cells := 0, slots := 0, locals := 41 }) (va_Pc [.ref h0, .int a1, .int a2] (pzPre (dC, dI) vwCl [(h0, .inr (4, [.ref q1, .ref q2, .ref q3, .ref q4, .ref q5, .int tk, .int 0, .int 3, .int 20, .int 0, .int 0, .int 0, .int 0])), (q2, .inr (0, [.int 0, .ref z, .int 0])), (q5, .inl (cI, 7, .inl (fun _ => 0)))] [(cI, .int)] sz)) (va_Qi (fun (r : Int32) (_ : Unit) => r = (-1)) (fun _ _ => True) (va_A [(h0, .inr (4, [.ref q1, .ref q2, .ref q3, .ref q4, .ref q5, .int tk, .int 0, .int 3, .int 20, .int 0, .int 0, .int 0, .int 0])), (q2, .inr (0, [.int 0, .ref z, .int 0])), (q5, .inl (cI, 7, .inl (fun _ => 0)))] sz)) 0 0 (va_A [(h0, .inr (4, [.ref q1, .ref q2, .ref q3, .ref q4, .ref q5, .int tk, .int 0, .int 3, .int 20, .int 0, .int 0, .int 0, .int 0])), (q2, .inr (0, [.int 0, .ref z, .int 0])), (q5, .inl (cI, 7, .inl (fun _ => 0)))] sz) := by
  refine Met.ofW (cc := cX3_callOf) (maxL := 4) (ret := (some .int)) (by decide) rfl ?_
  intro p e s m args below meth c s₁ B hml hv
  obtain ⟨rfl, hsz, hP, hK, hD0⟩ := hv
  have hx := B.exec
  have hb := B.bytes
  have hr := B.returns
  have hts := atoms_spec (ws := wsX3_callOf) B.pre
  have hown : s.vm.findClass RX3 = some m.cls := findClass_of_methodNamed B.named
  have hlocks := B.notSynchronized
  subst hsz
  have hD := hD0.self (sz := s.heap.size)
  generalize hAe : va_A [(h0, .inr (4, [.ref q1, .ref q2, .ref q3, .ref q4, .ref q5, .int tk, .int 0, .int 3, .int 20, .int 0, .int 0, .int 0, .int 0])), (q2, .inr (0, [.int 0, .ref z, .int 0])), (q5, .inl (cI, 7, .inl (fun _ => 0)))] s.heap.size = A at hD ⊢
  have hA : ∀ q : Nat, s.heap.size ≤ q → A q := fun q h => by rw [← hAe]; exact Or.inr h
  have hS : va_S A s.heap s.heap [] := va_S.rf
  have hP : va_P (dC, dI) vwCl [(h0, .inr (4, [.ref q1, .ref q2, .ref q3, .ref q4, .ref q5, .int tk, .int 0, .int 3, .int 20, .int 0, .int 0, .int 0, .int 0])), (q2, .inr (0, [.int 0, .ref z, .int 0])), (q5, .inl (cI, 7, .inl (fun _ => 0)))] s.heap := hP
  have hl := lv_entry ([.ref h0, .int a1, .int a2]) (n := 4) (Nat.le_of_ble_eq_true rfl)
  rw [lg_entry_eq]
  generalize (lg_sl ([.ref h0, .int a1, .int a2]) ++ List.replicate (4 - (lg_sl ([.ref h0, .int a1, .int a2])).length) Slot.unset).toArray = ls at hl ⊢
  have hl : lv_has ls 4 [(0, .ref h0), (1, .int a1), (2, .int a2)] := hl
  refine lv_aload_n hx hb dX3_callOf_0 rfl (lv_at hl 0 rfl) ?_
  refine lv_iload_n hx hb dX3_callOf_1 rfl (lv_at hl 1 rfl) ?_
  have hPc := hP.sub (ws' := [(h0, .inr (4, [.ref q1, .ref q2, .ref q3, .ref q4, .ref q5, .int tk, .int 0, .int 3, .int 20, .int 0, .int 0, .int 0, .int 0])), (q2, .inr (0, [.int 0, .ref z, .int 0]))]) [0, 1] rfl
  have hDc := hD.sub (ws' := [(h0, .inr (4, [.ref q1, .ref q2, .ref q3, .ref q4, .ref q5, .int tk, .int 0, .int 3, .int 20, .int 0, .int 0, .int 0, .int 0])), (q2, .inr (0, [.int 0, .ref z, .int 0]))]) [0, 1] (by decide) rfl
  have hKc := hK.sub (tys' := []) [] rfl
  have hFc := pz_f hA hS
  refine va_callq (va_runV (As := [.int a1]) (rest := []) ⟨hx, hb, hml, hown, hts⟩ (k_X3_callAt l dC dI h0 q1 q2 q3 q4 q5 z tk a1 s.heap.size) (cwV 1 hts gX3_callOf_X3_callAt rfl rfl rfl (by decide +kernel) ⟨Nat.le_of_ble_eq_true rfl, Nat.le_of_ble_eq_true rfl⟩) ⟨pz_blind, va_recv hKc hPc (ci := 4) (q0 := 0) rfl rfl, fun U hU hW => ⟨rfl, pz_at hPc hKc hDc hU hW⟩⟩ rfl rfl hl.1 rfl (lv_room (Nat.le_of_ble_eq_true rfl)) dX3_callOf_2 ⟨Nat.le_of_ble_eq_true rfl, Nat.le_of_ble_eq_true rfl⟩) hS (fun q _ h => hFc q h) hFc (fun r_1 u t H locs ht hvm hw hB hz1 hk1 hS => ?_)
  have hP := pz_keep hP hk1
  have hw : r_1 = none := hw
  subst hw
  refine W.eq (g2 := F0 m 5 ls [.null]) rfl ?_
  refine lv_astore_nN (lv' := [(3, .null), (0, .ref h0), (1, .int a1), (2, .int a2)]) hx hb dX3_callOf_5 rfl hl (by decide) rfl (fun ls hl => ?_)
  refine lv_aload_nN hx hb dX3_callOf_6 rfl (lv_at hl 0 rfl) ?_
  refine lv_ifnonnullN hx hb dX3_callOf_7 ?_
  refine lv_aload_n hx hb dX3_callOf_10 rfl (lv_at hl 1 rfl) ?_
  refine lv_iconst (v := (-1)) hx hb dX3_callOf_11 (by decide) ?_
  have hPc := hP.sub (ws' := [(h0, .inr (4, [.ref q1, .ref q2, .ref q3, .ref q4, .ref q5, .int tk, .int 0, .int 3, .int 20, .int 0, .int 0, .int 0, .int 0])), (q5, .inl (cI, 7, .inl (fun _ => 0)))]) [0, 2] rfl
  have hDc := hD.sub (ws' := [(h0, .inr (4, [.ref q1, .ref q2, .ref q3, .ref q4, .ref q5, .int tk, .int 0, .int 3, .int 20, .int 0, .int 0, .int 0, .int 0])), (q5, .inl (cI, 7, .inl (fun _ => 0)))]) [0, 2] (by decide) rfl
  have hKc := hK.sub (tys' := [(cI, .int)]) [0] rfl
  have hFc := va_free (wc := [(h0, .inr (4, [.ref q1, .ref q2, .ref q3, .ref q4, .ref q5, .int tk, .int 0, .int 3, .int 20, .int 0, .int 0, .int 0, .int 0])), (q5, .inl (cI, 7, .inl (fun _ => 0)))]) hD hS hA [0, 2] rfl
  refine va_calli (va_runV (As := [.int (-1)]) (rest := []) ⟨hx, hb, hml, hown, hts⟩ (k_X3_refuse1 l dC dI h0 q1 q2 q3 q4 q5 cI tk H.size) (cwV 1 hts gX3_callOf_X3_refuse rfl rfl rfl (by decide +kernel) ⟨Nat.le_of_ble_eq_true rfl, Nat.le_of_ble_eq_true rfl⟩) ⟨pz_blind, va_recv hKc hPc (ci := 4) (q0 := 0) rfl rfl, fun U hU hW => ⟨rfl, pz_at hPc hKc hDc hU hW⟩⟩ rfl rfl hl.1 rfl (lv_room (Nat.le_of_ble_eq_true rfl)) dX3_callOf_12 ⟨Nat.le_of_ble_eq_true rfl, Nat.le_of_ble_eq_true rfl⟩) hS (fun q _ h => hFc q h) hFc (fun r_2 u t H locs ht hvm hw hB hz1 hk1 hS => ?_)
  obtain ⟨hP, hD⟩ := va_join (wr := [(q2, .inr (0, [.int 0, .ref z, .int 0]))]) (w1 := []) hP hD [0, 2] [1] rfl rfl (by decide) (by decide) hk1 hFc pz_nilP pz_nilD
  have hP : va_P (dC, dI) vwCl [(q2, .inr (0, [.int 0, .ref z, .int 0]))] H := hP
  have hD : va_D A [(q2, .inr (0, [.int 0, .ref z, .int 0]))] := hD
  have hw : r_2 = (-1) := hw
  subst hw
  exact W.iret (v := (-1)) hx hb hr (fun t ht hW => ⟨⟨(-1), (), rfl, rfl, trivial⟩, hS.F ht⟩) hS.2.2 dX3_callOf_15

set_option maxHeartbeats 4000000 in
set_option maxRecDepth 100000 in
theorem k_X3_serverOf (l : Launch) (dC : Nat → ClassId) (dI : Nat → Nat → Nat) (h0 : Nat) (q1 : Nat) (q2 : Nat) (q3 : Nat) (q4 : Nat) (q5 : Nat) (z : Nat) (cI : ClassId) (tk : Int32) (a1 : Int32) (a2 : Int32) (sz : Nat) : Met l yX3_serverOf wsX3_serverOf ({ frames := 2, cells := 0, slots := 0, locals := 41 }) (va_Pc [.ref h0, .int a1, .int a2] (pzPre (dC, dI) vwCl [(h0, .inr (4, [.ref q1, .ref q2, .ref q3, .ref q4, .ref q5, .int tk, .int 0, .int 3, .int 20, .int 0, .int 0, .int 0, .int 0])), (q1, .inr (0, [.int 0, .ref z, .int 0])), (q5, .inl (cI, 7, .inl (fun _ => 0)))] [(cI, .int)] sz)) (va_Qi (fun (r : Int32) (_ : Unit) => r = (-1)) (fun _ _ => True) (va_A [(h0, .inr (4, [.ref q1, .ref q2, .ref q3, .ref q4, .ref q5, .int tk, .int 0, .int 3, .int 20, .int 0, .int 0, .int 0, .int 0])), (q1, .inr (0, [.int 0, .ref z, .int 0])), (q5, .inl (cI, 7, .inl (fun _ => 0)))] sz)) 0 0 (va_A [(h0, .inr (4, [.ref q1, .ref q2, .ref q3, .ref q4, .ref q5, .int tk, .int 0, .int 3, .int 20, .int 0, .int 0, .int 0, .int 0])), (q1, .inr (0, [.int 0, .ref z, .int 0])), (q5, .inl (cI, 7, .inl (fun _ => 0)))] sz) := by
  refine Met.ofW (cc := cX3_serverOf) (maxL := 4) (ret := (some .int)) (by decide) rfl ?_
  intro p e s m args below meth c s₁ B hml hv
  obtain ⟨rfl, hsz, hP, hK, hD0⟩ := hv
  have hx := B.exec
  have hb := B.bytes
  have hr := B.returns
  have hts := atoms_spec (ws := wsX3_serverOf) B.pre
  have hown : s.vm.findClass RX3 = some m.cls := findClass_of_methodNamed B.named
  have hlocks := B.notSynchronized
  subst hsz
  have hD := hD0.self (sz := s.heap.size)
  generalize hAe : va_A [(h0, .inr (4, [.ref q1, .ref q2, .ref q3, .ref q4, .ref q5, .int tk, .int 0, .int 3, .int 20, .int 0, .int 0, .int 0, .int 0])), (q1, .inr (0, [.int 0, .ref z, .int 0])), (q5, .inl (cI, 7, .inl (fun _ => 0)))] s.heap.size = A at hD ⊢
  have hA : ∀ q : Nat, s.heap.size ≤ q → A q := fun q h => by rw [← hAe]; exact Or.inr h
  have hS : va_S A s.heap s.heap [] := va_S.rf
  have hP : va_P (dC, dI) vwCl [(h0, .inr (4, [.ref q1, .ref q2, .ref q3, .ref q4, .ref q5, .int tk, .int 0, .int 3, .int 20, .int 0, .int 0, .int 0, .int 0])), (q1, .inr (0, [.int 0, .ref z, .int 0])), (q5, .inl (cI, 7, .inl (fun _ => 0)))] s.heap := hP
  have hl := lv_entry ([.ref h0, .int a1, .int a2]) (n := 4) (Nat.le_of_ble_eq_true rfl)
  rw [lg_entry_eq]
  generalize (lg_sl ([.ref h0, .int a1, .int a2]) ++ List.replicate (4 - (lg_sl ([.ref h0, .int a1, .int a2])).length) Slot.unset).toArray = ls at hl ⊢
  have hl : lv_has ls 4 [(0, .ref h0), (1, .int a1), (2, .int a2)] := hl
  refine lv_aload_n hx hb dX3_serverOf_0 rfl (lv_at hl 0 rfl) ?_
  refine lv_iload_n hx hb dX3_serverOf_1 rfl (lv_at hl 1 rfl) ?_
  have hPc := hP.sub (ws' := [(h0, .inr (4, [.ref q1, .ref q2, .ref q3, .ref q4, .ref q5, .int tk, .int 0, .int 3, .int 20, .int 0, .int 0, .int 0, .int 0])), (q1, .inr (0, [.int 0, .ref z, .int 0]))]) [0, 1] rfl
  have hDc := hD.sub (ws' := [(h0, .inr (4, [.ref q1, .ref q2, .ref q3, .ref q4, .ref q5, .int tk, .int 0, .int 3, .int 20, .int 0, .int 0, .int 0, .int 0])), (q1, .inr (0, [.int 0, .ref z, .int 0]))]) [0, 1] (by decide) rfl
  have hKc := hK.sub (tys' := []) [] rfl
  have hFc := pz_f hA hS
  refine va_callq (va_runV (As := [.int a1]) (rest := []) ⟨hx, hb, hml, hown, hts⟩ (k_X3_serverAt l dC dI h0 q1 q2 q3 q4 q5 z tk a1 s.heap.size) (cwV 1 hts gX3_serverOf_X3_serverAt rfl rfl rfl (by decide +kernel) ⟨Nat.le_of_ble_eq_true rfl, Nat.le_of_ble_eq_true rfl⟩) ⟨pz_blind, va_recv hKc hPc (ci := 4) (q0 := 0) rfl rfl, fun U hU hW => ⟨rfl, pz_at hPc hKc hDc hU hW⟩⟩ rfl rfl hl.1 rfl (lv_room (Nat.le_of_ble_eq_true rfl)) dX3_serverOf_2 ⟨Nat.le_of_ble_eq_true rfl, Nat.le_of_ble_eq_true rfl⟩) hS (fun q _ h => hFc q h) hFc (fun r_1 u t H locs ht hvm hw hB hz1 hk1 hS => ?_)
  have hP := pz_keep hP hk1
  have hw : r_1 = none := hw
  subst hw
  refine W.eq (g2 := F0 m 5 ls [.null]) rfl ?_
  refine lv_astore_nN (lv' := [(3, .null), (0, .ref h0), (1, .int a1), (2, .int a2)]) hx hb dX3_serverOf_5 rfl hl (by decide) rfl (fun ls hl => ?_)
  refine lv_aload_nN hx hb dX3_serverOf_6 rfl (lv_at hl 0 rfl) ?_
  refine lv_ifnonnullN hx hb dX3_serverOf_7 ?_
  refine lv_aload_n hx hb dX3_serverOf_10 rfl (lv_at hl 1 rfl) ?_
  refine lv_iconst (v := (-1)) hx hb dX3_serverOf_11 (by decide) ?_
  have hPc := hP.sub (ws' := [(h0, .inr (4, [.ref q1, .ref q2, .ref q3, .ref q4, .ref q5, .int tk, .int 0, .int 3, .int 20, .int 0, .int 0, .int 0, .int 0])), (q5, .inl (cI, 7, .inl (fun _ => 0)))]) [0, 2] rfl
  have hDc := hD.sub (ws' := [(h0, .inr (4, [.ref q1, .ref q2, .ref q3, .ref q4, .ref q5, .int tk, .int 0, .int 3, .int 20, .int 0, .int 0, .int 0, .int 0])), (q5, .inl (cI, 7, .inl (fun _ => 0)))]) [0, 2] (by decide) rfl
  have hKc := hK.sub (tys' := [(cI, .int)]) [0] rfl
  have hFc := va_free (wc := [(h0, .inr (4, [.ref q1, .ref q2, .ref q3, .ref q4, .ref q5, .int tk, .int 0, .int 3, .int 20, .int 0, .int 0, .int 0, .int 0])), (q5, .inl (cI, 7, .inl (fun _ => 0)))]) hD hS hA [0, 2] rfl
  refine va_calli (va_runV (As := [.int (-1)]) (rest := []) ⟨hx, hb, hml, hown, hts⟩ (k_X3_refuse1 l dC dI h0 q1 q2 q3 q4 q5 cI tk H.size) (cwV 1 hts gX3_serverOf_X3_refuse rfl rfl rfl (by decide +kernel) ⟨Nat.le_of_ble_eq_true rfl, Nat.le_of_ble_eq_true rfl⟩) ⟨pz_blind, va_recv hKc hPc (ci := 4) (q0 := 0) rfl rfl, fun U hU hW => ⟨rfl, pz_at hPc hKc hDc hU hW⟩⟩ rfl rfl hl.1 rfl (lv_room (Nat.le_of_ble_eq_true rfl)) dX3_serverOf_12 ⟨Nat.le_of_ble_eq_true rfl, Nat.le_of_ble_eq_true rfl⟩) hS (fun q _ h => hFc q h) hFc (fun r_2 u t H locs ht hvm hw hB hz1 hk1 hS => ?_)
  obtain ⟨hP, hD⟩ := va_join (wr := [(q1, .inr (0, [.int 0, .ref z, .int 0]))]) (w1 := []) hP hD [0, 2] [1] rfl rfl (by decide) (by decide) hk1 hFc pz_nilP pz_nilD
  have hP : va_P (dC, dI) vwCl [(q1, .inr (0, [.int 0, .ref z, .int 0]))] H := hP
  have hD : va_D A [(q1, .inr (0, [.int 0, .ref z, .int 0]))] := hD
  have hw : r_2 = (-1) := hw
  subst hw
  exact W.iret (v := (-1)) hx hb hr (fun t ht hW => ⟨⟨(-1), (), rfl, rfl, trivial⟩, hS.F ht⟩) hS.2.2 dX3_serverOf_15

set_option maxHeartbeats 4000000 in
set_option maxRecDepth 100000 in
theorem k_X3_mark (l : Launch) (dC : Nat → ClassId) (dI : Nat → Nat → Nat) (h0 : Nat) (q1 : Nat) (q2 : Nat) (q3 : Nat) (q4 : Nat) (q5 : Nat) (z : Nat) (cI : ClassId) (tk : Int32) (a1 : Int32) (a2 : Int32) (sz : Nat) : Met l yX3_mark wsX3_mark ({ frames := 2, cells := 0, slots := 0, locals := 41 }) (va_Pc [.ref h0, .int a1, .int a2] (pzPre (dC, dI) vwCl [(h0, .inr (4, [.ref q1, .ref q2, .ref q3, .ref q4, .ref q5, .int tk, .int 0, .int 3, .int 20, .int 0, .int 0, .int 0, .int 0])), (q1, .inr (0, [.int 0, .ref z, .int 0])), (q5, .inl (cI, 7, .inl (fun _ => 0)))] [(cI, .int)] sz)) (va_Qi (fun (r : Int32) (_ : Unit) => r = (-1)) (fun _ _ => True) (va_A [(h0, .inr (4, [.ref q1, .ref q2, .ref q3, .ref q4, .ref q5, .int tk, .int 0, .int 3, .int 20, .int 0, .int 0, .int 0, .int 0])), (q1, .inr (0, [.int 0, .ref z, .int 0])), (q5, .inl (cI, 7, .inl (fun _ => 0)))] sz)) 0 0 (va_A [(h0, .inr (4, [.ref q1, .ref q2, .ref q3, .ref q4, .ref q5, .int tk, .int 0, .int 3, .int 20, .int 0, .int 0, .int 0, .int 0])), (q1, .inr (0, [.int 0, .ref z, .int 0])), (q5, .inl (cI, 7, .inl (fun _ => 0)))] sz) := by
  refine Met.ofW (cc := cX3_mark) (maxL := 4) (ret := (some .int)) (by decide) rfl ?_
  intro p e s m args below meth c s₁ B hml hv
  obtain ⟨rfl, hsz, hP, hK, hD0⟩ := hv
  have hx := B.exec
  have hb := B.bytes
  have hr := B.returns
  have hts := atoms_spec (ws := wsX3_mark) B.pre
  have hown : s.vm.findClass RX3 = some m.cls := findClass_of_methodNamed B.named
  have hlocks := B.notSynchronized
  subst hsz
  have hD := hD0.self (sz := s.heap.size)
  generalize hAe : va_A [(h0, .inr (4, [.ref q1, .ref q2, .ref q3, .ref q4, .ref q5, .int tk, .int 0, .int 3, .int 20, .int 0, .int 0, .int 0, .int 0])), (q1, .inr (0, [.int 0, .ref z, .int 0])), (q5, .inl (cI, 7, .inl (fun _ => 0)))] s.heap.size = A at hD ⊢
  have hA : ∀ q : Nat, s.heap.size ≤ q → A q := fun q h => by rw [← hAe]; exact Or.inr h
  have hS : va_S A s.heap s.heap [] := va_S.rf
  have hP : va_P (dC, dI) vwCl [(h0, .inr (4, [.ref q1, .ref q2, .ref q3, .ref q4, .ref q5, .int tk, .int 0, .int 3, .int 20, .int 0, .int 0, .int 0, .int 0])), (q1, .inr (0, [.int 0, .ref z, .int 0])), (q5, .inl (cI, 7, .inl (fun _ => 0)))] s.heap := hP
  have hl := lv_entry ([.ref h0, .int a1, .int a2]) (n := 4) (Nat.le_of_ble_eq_true rfl)
  rw [lg_entry_eq]
  generalize (lg_sl ([.ref h0, .int a1, .int a2]) ++ List.replicate (4 - (lg_sl ([.ref h0, .int a1, .int a2])).length) Slot.unset).toArray = ls at hl ⊢
  have hl : lv_has ls 4 [(0, .ref h0), (1, .int a1), (2, .int a2)] := hl
  refine lv_aload_n hx hb dX3_mark_0 rfl (lv_at hl 0 rfl) ?_
  refine lv_iload_n hx hb dX3_mark_1 rfl (lv_at hl 1 rfl) ?_
  have hPc := hP.sub (ws' := [(h0, .inr (4, [.ref q1, .ref q2, .ref q3, .ref q4, .ref q5, .int tk, .int 0, .int 3, .int 20, .int 0, .int 0, .int 0, .int 0])), (q1, .inr (0, [.int 0, .ref z, .int 0]))]) [0, 1] rfl
  have hDc := hD.sub (ws' := [(h0, .inr (4, [.ref q1, .ref q2, .ref q3, .ref q4, .ref q5, .int tk, .int 0, .int 3, .int 20, .int 0, .int 0, .int 0, .int 0])), (q1, .inr (0, [.int 0, .ref z, .int 0]))]) [0, 1] (by decide) rfl
  have hKc := hK.sub (tys' := []) [] rfl
  have hFc := pz_f hA hS
  refine va_callq (va_runV (As := [.int a1]) (rest := []) ⟨hx, hb, hml, hown, hts⟩ (k_X3_serverAt l dC dI h0 q1 q2 q3 q4 q5 z tk a1 s.heap.size) (cwV 1 hts gX3_mark_X3_serverAt rfl rfl rfl (by decide +kernel) ⟨Nat.le_of_ble_eq_true rfl, Nat.le_of_ble_eq_true rfl⟩) ⟨pz_blind, va_recv hKc hPc (ci := 4) (q0 := 0) rfl rfl, fun U hU hW => ⟨rfl, pz_at hPc hKc hDc hU hW⟩⟩ rfl rfl hl.1 rfl (lv_room (Nat.le_of_ble_eq_true rfl)) dX3_mark_2 ⟨Nat.le_of_ble_eq_true rfl, Nat.le_of_ble_eq_true rfl⟩) hS (fun q _ h => hFc q h) hFc (fun r_1 u t H locs ht hvm hw hB hz1 hk1 hS => ?_)
  have hP := pz_keep hP hk1
  have hw : r_1 = none := hw
  subst hw
  refine W.eq (g2 := F0 m 5 ls [.null]) rfl ?_
  refine lv_astore_nN (lv' := [(3, .null), (0, .ref h0), (1, .int a1), (2, .int a2)]) hx hb dX3_mark_5 rfl hl (by decide) rfl (fun ls hl => ?_)
  refine lv_aload_nN hx hb dX3_mark_6 rfl (lv_at hl 0 rfl) ?_
  refine lv_ifnonnullN hx hb dX3_mark_7 ?_
  refine lv_aload_n hx hb dX3_mark_10 rfl (lv_at hl 1 rfl) ?_
  refine lv_iconst (v := (-1)) hx hb dX3_mark_11 (by decide) ?_
  have hPc := hP.sub (ws' := [(h0, .inr (4, [.ref q1, .ref q2, .ref q3, .ref q4, .ref q5, .int tk, .int 0, .int 3, .int 20, .int 0, .int 0, .int 0, .int 0])), (q5, .inl (cI, 7, .inl (fun _ => 0)))]) [0, 2] rfl
  have hDc := hD.sub (ws' := [(h0, .inr (4, [.ref q1, .ref q2, .ref q3, .ref q4, .ref q5, .int tk, .int 0, .int 3, .int 20, .int 0, .int 0, .int 0, .int 0])), (q5, .inl (cI, 7, .inl (fun _ => 0)))]) [0, 2] (by decide) rfl
  have hKc := hK.sub (tys' := [(cI, .int)]) [0] rfl
  have hFc := va_free (wc := [(h0, .inr (4, [.ref q1, .ref q2, .ref q3, .ref q4, .ref q5, .int tk, .int 0, .int 3, .int 20, .int 0, .int 0, .int 0, .int 0])), (q5, .inl (cI, 7, .inl (fun _ => 0)))]) hD hS hA [0, 2] rfl
  refine va_calli (va_runV (As := [.int (-1)]) (rest := []) ⟨hx, hb, hml, hown, hts⟩ (k_X3_refuse1 l dC dI h0 q1 q2 q3 q4 q5 cI tk H.size) (cwV 1 hts gX3_mark_X3_refuse rfl rfl rfl (by decide +kernel) ⟨Nat.le_of_ble_eq_true rfl, Nat.le_of_ble_eq_true rfl⟩) ⟨pz_blind, va_recv hKc hPc (ci := 4) (q0 := 0) rfl rfl, fun U hU hW => ⟨rfl, pz_at hPc hKc hDc hU hW⟩⟩ rfl rfl hl.1 rfl (lv_room (Nat.le_of_ble_eq_true rfl)) dX3_mark_12 ⟨Nat.le_of_ble_eq_true rfl, Nat.le_of_ble_eq_true rfl⟩) hS (fun q _ h => hFc q h) hFc (fun r_2 u t H locs ht hvm hw hB hz1 hk1 hS => ?_)
  obtain ⟨hP, hD⟩ := va_join (wr := [(q1, .inr (0, [.int 0, .ref z, .int 0]))]) (w1 := []) hP hD [0, 2] [1] rfl rfl (by decide) (by decide) hk1 hFc pz_nilP pz_nilD
  have hP : va_P (dC, dI) vwCl [(q1, .inr (0, [.int 0, .ref z, .int 0]))] H := hP
  have hD : va_D A [(q1, .inr (0, [.int 0, .ref z, .int 0]))] := hD
  have hw : r_2 = (-1) := hw
  subst hw
  exact W.iret (v := (-1)) hx hb hr (fun t ht hW => ⟨⟨(-1), (), rfl, rfl, trivial⟩, hS.F ht⟩) hS.2.2 dX3_mark_15

set_option maxHeartbeats 4000000 in
set_option maxRecDepth 100000 in
theorem k_X3_share (l : Launch) (dC : Nat → ClassId) (dI : Nat → Nat → Nat) (h0 : Nat) (q1 : Nat) (q2 : Nat) (q3 : Nat) (q4 : Nat) (q5 : Nat) (z : Nat) (cI : ClassId) (tk : Int32) (a1 : Int32) (sz : Nat) : Met l yX3_share wsX3_share ({ frames := 2, cells := 0, slots := 0, locals := 41 }) (va_Pc [.ref h0, .int a1] (pzPre (dC, dI) vwCl [(h0, .inr (4, [.ref q1, .ref q2, .ref q3, .ref q4, .ref q5, .int tk, .int 0, .int 3, .int 20, .int 0, .int 0, .int 0, .int 0])), (q1, .inr (0, [.int 0, .ref z, .int 0])), (q5, .inl (cI, 7, .inl (fun _ => 0)))] [(cI, .int)] sz)) (va_Qi (fun (r : Int32) (_ : Unit) => r = (-1)) (fun _ _ => True) (va_A [(h0, .inr (4, [.ref q1, .ref q2, .ref q3, .ref q4, .ref q5, .int tk, .int 0, .int 3, .int 20, .int 0, .int 0, .int 0, .int 0])), (q1, .inr (0, [.int 0, .ref z, .int 0])), (q5, .inl (cI, 7, .inl (fun _ => 0)))] sz)) 0 0 (va_A [(h0, .inr (4, [.ref q1, .ref q2, .ref q3, .ref q4, .ref q5, .int tk, .int 0, .int 3, .int 20, .int 0, .int 0, .int 0, .int 0])), (q1, .inr (0, [.int 0, .ref z, .int 0])), (q5, .inl (cI, 7, .inl (fun _ => 0)))] sz) := by
  refine Met.ofW (cc := cX3_share) (maxL := 4) (ret := (some .int)) (by decide) rfl ?_
  intro p e s m args below meth c s₁ B hml hv
  obtain ⟨rfl, hsz, hP, hK, hD0⟩ := hv
  have hx := B.exec
  have hb := B.bytes
  have hr := B.returns
  have hts := atoms_spec (ws := wsX3_share) B.pre
  have hown : s.vm.findClass RX3 = some m.cls := findClass_of_methodNamed B.named
  have hlocks := B.notSynchronized
  subst hsz
  have hD := hD0.self (sz := s.heap.size)
  generalize hAe : va_A [(h0, .inr (4, [.ref q1, .ref q2, .ref q3, .ref q4, .ref q5, .int tk, .int 0, .int 3, .int 20, .int 0, .int 0, .int 0, .int 0])), (q1, .inr (0, [.int 0, .ref z, .int 0])), (q5, .inl (cI, 7, .inl (fun _ => 0)))] s.heap.size = A at hD ⊢
  have hA : ∀ q : Nat, s.heap.size ≤ q → A q := fun q h => by rw [← hAe]; exact Or.inr h
  have hS : va_S A s.heap s.heap [] := va_S.rf
  have hP : va_P (dC, dI) vwCl [(h0, .inr (4, [.ref q1, .ref q2, .ref q3, .ref q4, .ref q5, .int tk, .int 0, .int 3, .int 20, .int 0, .int 0, .int 0, .int 0])), (q1, .inr (0, [.int 0, .ref z, .int 0])), (q5, .inl (cI, 7, .inl (fun _ => 0)))] s.heap := hP
  have hl := lv_entry ([.ref h0, .int a1]) (n := 4) (Nat.le_of_ble_eq_true rfl)
  rw [lg_entry_eq]
  generalize (lg_sl ([.ref h0, .int a1]) ++ List.replicate (4 - (lg_sl ([.ref h0, .int a1])).length) Slot.unset).toArray = ls at hl ⊢
  have hl : lv_has ls 4 [(0, .ref h0), (1, .int a1)] := hl
  refine lv_aload_n hx hb dX3_share_0 rfl (lv_at hl 0 rfl) ?_
  refine lv_iload_n hx hb dX3_share_1 rfl (lv_at hl 1 rfl) ?_
  have hPc := hP.sub (ws' := [(h0, .inr (4, [.ref q1, .ref q2, .ref q3, .ref q4, .ref q5, .int tk, .int 0, .int 3, .int 20, .int 0, .int 0, .int 0, .int 0])), (q1, .inr (0, [.int 0, .ref z, .int 0]))]) [0, 1] rfl
  have hDc := hD.sub (ws' := [(h0, .inr (4, [.ref q1, .ref q2, .ref q3, .ref q4, .ref q5, .int tk, .int 0, .int 3, .int 20, .int 0, .int 0, .int 0, .int 0])), (q1, .inr (0, [.int 0, .ref z, .int 0]))]) [0, 1] (by decide) rfl
  have hKc := hK.sub (tys' := []) [] rfl
  have hFc := pz_f hA hS
  refine va_callq (va_runV (As := [.int a1]) (rest := []) ⟨hx, hb, hml, hown, hts⟩ (k_X3_serverAt l dC dI h0 q1 q2 q3 q4 q5 z tk a1 s.heap.size) (cwV 1 hts gX3_share_X3_serverAt rfl rfl rfl (by decide +kernel) ⟨Nat.le_of_ble_eq_true rfl, Nat.le_of_ble_eq_true rfl⟩) ⟨pz_blind, va_recv hKc hPc (ci := 4) (q0 := 0) rfl rfl, fun U hU hW => ⟨rfl, pz_at hPc hKc hDc hU hW⟩⟩ rfl rfl hl.1 rfl (lv_room (Nat.le_of_ble_eq_true rfl)) dX3_share_2 ⟨Nat.le_of_ble_eq_true rfl, Nat.le_of_ble_eq_true rfl⟩) hS (fun q _ h => hFc q h) hFc (fun r_1 u t H locs ht hvm hw hB hz1 hk1 hS => ?_)
  have hP := pz_keep hP hk1
  have hw : r_1 = none := hw
  subst hw
  refine W.eq (g2 := F0 m 5 ls [.null]) rfl ?_
  refine lv_astore_nN (lv' := [(2, .null), (0, .ref h0), (1, .int a1)]) hx hb dX3_share_5 rfl hl (by decide) rfl (fun ls hl => ?_)
  refine lv_aload_nN hx hb dX3_share_6 rfl (lv_at hl 0 rfl) ?_
  refine lv_ifnonnullN hx hb dX3_share_7 ?_
  refine lv_aload_n hx hb dX3_share_10 rfl (lv_at hl 1 rfl) ?_
  refine lv_iconst (v := (-1)) hx hb dX3_share_11 (by decide) ?_
  have hPc := hP.sub (ws' := [(h0, .inr (4, [.ref q1, .ref q2, .ref q3, .ref q4, .ref q5, .int tk, .int 0, .int 3, .int 20, .int 0, .int 0, .int 0, .int 0])), (q5, .inl (cI, 7, .inl (fun _ => 0)))]) [0, 2] rfl
  have hDc := hD.sub (ws' := [(h0, .inr (4, [.ref q1, .ref q2, .ref q3, .ref q4, .ref q5, .int tk, .int 0, .int 3, .int 20, .int 0, .int 0, .int 0, .int 0])), (q5, .inl (cI, 7, .inl (fun _ => 0)))]) [0, 2] (by decide) rfl
  have hKc := hK.sub (tys' := [(cI, .int)]) [0] rfl
  have hFc := va_free (wc := [(h0, .inr (4, [.ref q1, .ref q2, .ref q3, .ref q4, .ref q5, .int tk, .int 0, .int 3, .int 20, .int 0, .int 0, .int 0, .int 0])), (q5, .inl (cI, 7, .inl (fun _ => 0)))]) hD hS hA [0, 2] rfl
  refine va_calli (va_runV (As := [.int (-1)]) (rest := []) ⟨hx, hb, hml, hown, hts⟩ (k_X3_refuse1 l dC dI h0 q1 q2 q3 q4 q5 cI tk H.size) (cwV 1 hts gX3_share_X3_refuse rfl rfl rfl (by decide +kernel) ⟨Nat.le_of_ble_eq_true rfl, Nat.le_of_ble_eq_true rfl⟩) ⟨pz_blind, va_recv hKc hPc (ci := 4) (q0 := 0) rfl rfl, fun U hU hW => ⟨rfl, pz_at hPc hKc hDc hU hW⟩⟩ rfl rfl hl.1 rfl (lv_room (Nat.le_of_ble_eq_true rfl)) dX3_share_12 ⟨Nat.le_of_ble_eq_true rfl, Nat.le_of_ble_eq_true rfl⟩) hS (fun q _ h => hFc q h) hFc (fun r_2 u t H locs ht hvm hw hB hz1 hk1 hS => ?_)
  obtain ⟨hP, hD⟩ := va_join (wr := [(q1, .inr (0, [.int 0, .ref z, .int 0]))]) (w1 := []) hP hD [0, 2] [1] rfl rfl (by decide) (by decide) hk1 hFc pz_nilP pz_nilD
  have hP : va_P (dC, dI) vwCl [(q1, .inr (0, [.int 0, .ref z, .int 0]))] H := hP
  have hD : va_D A [(q1, .inr (0, [.int 0, .ref z, .int 0]))] := hD
  have hw : r_2 = (-1) := hw
  subst hw
  exact W.iret (v := (-1)) hx hb hr (fun t ht hW => ⟨⟨(-1), (), rfl, rfl, trivial⟩, hS.F ht⟩) hS.2.2 dX3_share_15

set_option maxHeartbeats 4000000 in
set_option maxRecDepth 100000 in
theorem k_X3_rule (l : Launch) (dC : Nat → ClassId) (dI : Nat → Nat → Nat) (h0 : Nat) (q1 : Nat) (q2 : Nat) (q3 : Nat) (q4 : Nat) (q5 : Nat) (cI : ClassId) (tk : Int32) (a1 : Int32) (sz : Nat) : Met l yX3_rule wsX3_rule ({ frames := 1, cells := 0, slots := 0, locals := 22 }) (va_Pc [.ref h0, .int a1] (pzPre (dC, dI) vwCl [(h0, .inr (4, [.ref q1, .ref q2, .ref q3, .ref q4, .ref q5, .int tk, .int 0, .int 3, .int 20, .int 0, .int 0, .int 0, .int 0])), (q5, .inl (cI, 7, .inl (fun _ => 0)))] [(cI, .int)] sz)) (va_Qi (fun (r : Int32) (_ : Unit) => r = ex_rule a1) (fun _ _ => True) (va_A [(h0, .inr (4, [.ref q1, .ref q2, .ref q3, .ref q4, .ref q5, .int tk, .int 0, .int 3, .int 20, .int 0, .int 0, .int 0, .int 0])), (q5, .inl (cI, 7, .inl (fun _ => 0)))] sz)) 0 0 (va_A [(h0, .inr (4, [.ref q1, .ref q2, .ref q3, .ref q4, .ref q5, .int tk, .int 0, .int 3, .int 20, .int 0, .int 0, .int 0, .int 0])), (q5, .inl (cI, 7, .inl (fun _ => 0)))] sz) := by
  refine Met.ofW (cc := cX3_rule) (maxL := 3) (ret := (some .int)) (by decide) rfl ?_
  intro p e s m args below meth c s₁ B hml hv
  obtain ⟨rfl, hsz, hP, hK, hD0⟩ := hv
  have hx := B.exec
  have hb := B.bytes
  have hr := B.returns
  have hts := atoms_spec (ws := wsX3_rule) B.pre
  have hown : s.vm.findClass RX3 = some m.cls := findClass_of_methodNamed B.named
  have hlocks := B.notSynchronized
  subst hsz
  have hD := hD0.self (sz := s.heap.size)
  generalize hAe : va_A [(h0, .inr (4, [.ref q1, .ref q2, .ref q3, .ref q4, .ref q5, .int tk, .int 0, .int 3, .int 20, .int 0, .int 0, .int 0, .int 0])), (q5, .inl (cI, 7, .inl (fun _ => 0)))] s.heap.size = A at hD ⊢
  have hA : ∀ q : Nat, s.heap.size ≤ q → A q := fun q h => by rw [← hAe]; exact Or.inr h
  have hS : va_S A s.heap s.heap [] := va_S.rf
  have hP : va_P (dC, dI) vwCl [(h0, .inr (4, [.ref q1, .ref q2, .ref q3, .ref q4, .ref q5, .int tk, .int 0, .int 3, .int 20, .int 0, .int 0, .int 0, .int 0])), (q5, .inl (cI, 7, .inl (fun _ => 0)))] s.heap := hP
  have hl := lv_entry ([.ref h0, .int a1]) (n := 3) (Nat.le_of_ble_eq_true rfl)
  rw [lg_entry_eq]
  generalize (lg_sl ([.ref h0, .int a1]) ++ List.replicate (3 - (lg_sl ([.ref h0, .int a1])).length) Slot.unset).toArray = ls at hl ⊢
  have hl : lv_has ls 3 [(0, .ref h0), (1, .int a1)] := hl
  refine lv_iload_n hx hb dX3_rule_0 rfl (lv_at hl 1 rfl) ?_
  refine lv_if_lt (tgt := 9) hx hb dX3_rule_1 (by decide) (fun c_1 => ?_) (fun c_1 => ?_)
  · skip
    have i_1 : a1.toInt < 0 := by have h9 := pz_lt c_1; exact h9
    refine lv_aload_n hx hb dX3_rule_9 rfl (lv_at hl 0 rfl) ?_
    refine lv_iconst (v := (-1)) hx hb dX3_rule_10 (by decide) ?_
    have hPc := hP.sub (ws' := [(h0, .inr (4, [.ref q1, .ref q2, .ref q3, .ref q4, .ref q5, .int tk, .int 0, .int 3, .int 20, .int 0, .int 0, .int 0, .int 0])), (q5, .inl (cI, 7, .inl (fun _ => 0)))]) [0, 1] rfl
    have hDc := hD.sub (ws' := [(h0, .inr (4, [.ref q1, .ref q2, .ref q3, .ref q4, .ref q5, .int tk, .int 0, .int 3, .int 20, .int 0, .int 0, .int 0, .int 0])), (q5, .inl (cI, 7, .inl (fun _ => 0)))]) [0, 1] (by decide) rfl
    have hKc := hK.sub (tys' := [(cI, .int)]) [0] rfl
    have hFc := va_free (wc := [(h0, .inr (4, [.ref q1, .ref q2, .ref q3, .ref q4, .ref q5, .int tk, .int 0, .int 3, .int 20, .int 0, .int 0, .int 0, .int 0])), (q5, .inl (cI, 7, .inl (fun _ => 0)))]) hD hS hA [0, 1] rfl
    refine va_calli (va_runV (As := [.int (-1)]) (rest := []) ⟨hx, hb, hml, hown, hts⟩ (k_X3_refuse1 l dC dI h0 q1 q2 q3 q4 q5 cI tk s.heap.size) (cwV 1 hts gX3_rule_X3_refuse rfl rfl rfl (by decide +kernel) ⟨Nat.le_of_ble_eq_true rfl, Nat.le_of_ble_eq_true rfl⟩) ⟨pz_blind, va_recv hKc hPc (ci := 4) (q0 := 0) rfl rfl, fun U hU hW => ⟨rfl, pz_at hPc hKc hDc hU hW⟩⟩ rfl rfl hl.1 rfl (lv_room (Nat.le_of_ble_eq_true rfl)) dX3_rule_11 ⟨Nat.le_of_ble_eq_true rfl, Nat.le_of_ble_eq_true rfl⟩) hS (fun q _ h => hFc q h) hFc (fun r_2 u t H locs ht hvm hw hB hz1 hk1 hS => ?_)
    obtain ⟨hP, hD⟩ := va_join (wr := []) (w1 := []) hP hD [0, 1] [] rfl rfl (by decide) (by decide) hk1 hFc pz_nilP pz_nilD
    have hP : va_P (dC, dI) vwCl [] H := hP
    have hD : va_D A [] := hD
    have hw : r_2 = (-1) := hw
    subst hw
    exact W.iret (v := (-1)) hx hb hr (fun t ht hW => ⟨⟨(-1), (), rfl, (by unfold ex_rule; (repeat' split) <;> first | rfl | omega), trivial⟩, hS.F ht⟩) hS.2.2 dX3_rule_14
  · skip
    have i_1 : 0 ≤ a1.toInt := by have h9 := pz_nlt c_1; exact h9
    refine lv_iload_n hx hb dX3_rule_4 rfl (lv_at hl 1 rfl) ?_
    refine lv_iconst (v := 3) hx hb dX3_rule_5 (by decide) ?_
    refine lv_icmp_le (tgt := 15) hx hb dX3_rule_6 (by decide) (fun c_3 => ?_) (fun c_3 => ?_)
    · skip
      have i_3 : a1.toInt ≤ 3 := by have h9 := pz_le c_3; exact h9
      refine lv_aload_n hx hb dX3_rule_15 rfl (lv_at hl 0 rfl) ?_
      refine va_get (D := (dC, dI)) (ci := 4) (v := .int 0) (C := RX3) (T := TX3) (N := 13) hx hb hts (fun _ h => List.mem_cons_of_mem _ (List.mem_append_right _ h)) hown hK hP 0 rfl rfl 6 (by decide) (hts (.fieldLink RX3 29 "FrontDoor" "ruleNow" "I") (by decide +kernel)) (fun _ h9 => h9) rfl dX3_rule_16 ?_
      refine lv_istore_n (lv' := [(2, .int 0), (0, .ref h0), (1, .int a1)]) hx hb dX3_rule_19 rfl hl (by decide) rfl (fun ls hl => ?_)
      refine lv_aload_n hx hb dX3_rule_20 rfl (lv_at hl 1 rfl) ?_
      refine lv_iload_n hx hb dX3_rule_21 rfl (lv_at hl 2 rfl) ?_
      refine va_put (D := (dC, dI)) (ci := 4) (v := .int a1) (ty := .int) (C := RX3) (T := TX3) (N := 13) hx hb hts (fun _ h => List.mem_cons_of_mem _ (List.mem_append_right _ h)) tyX3 tyX3_ok nmX3 hown hK hP hD hS 0 rfl rfl 6 (by decide) (hts (.fieldLink RX3 29 "FrontDoor" "ruleNow" "I") (by decide +kernel)) (fun _ h9 => h9) rfl (by decide +kernel) rfl rfl (Nat.le_of_ble_eq_true rfl) dX3_rule_22 (fun H locs hP hD hS => ?_)
      have hP : va_P (dC, dI) vwCl [(h0, .inr (4, [.ref q1, .ref q2, .ref q3, .ref q4, .ref q5, .int tk, .int a1, .int 3, .int 20, .int 0, .int 0, .int 0, .int 0])), (q5, .inl (cI, 7, .inl (fun _ => 0)))] H := hP
      have hD : va_D A [(h0, .inr (4, [.ref q1, .ref q2, .ref q3, .ref q4, .ref q5, .int tk, .int a1, .int 3, .int 20, .int 0, .int 0, .int 0, .int 0])), (q5, .inl (cI, 7, .inl (fun _ => 0)))] := hD
      refine lv_iload_n hx hb dX3_rule_25 rfl (lv_at hl 0 rfl) ?_
      exact W.iret (v := 0) hx hb hr (fun t ht hW => ⟨⟨0, (), rfl, (by unfold ex_rule; (repeat' split) <;> first | rfl | omega), trivial⟩, hS.F ht⟩) hS.2.2 dX3_rule_26
    · skip
      have i_3 : 3 < a1.toInt := by have h9 := pz_nle c_3; exact h9
      refine lv_aload_n hx hb dX3_rule_9 rfl (lv_at hl 0 rfl) ?_
      refine lv_iconst (v := (-1)) hx hb dX3_rule_10 (by decide) ?_
      have hPc := hP.sub (ws' := [(h0, .inr (4, [.ref q1, .ref q2, .ref q3, .ref q4, .ref q5, .int tk, .int 0, .int 3, .int 20, .int 0, .int 0, .int 0, .int 0])), (q5, .inl (cI, 7, .inl (fun _ => 0)))]) [0, 1] rfl
      have hDc := hD.sub (ws' := [(h0, .inr (4, [.ref q1, .ref q2, .ref q3, .ref q4, .ref q5, .int tk, .int 0, .int 3, .int 20, .int 0, .int 0, .int 0, .int 0])), (q5, .inl (cI, 7, .inl (fun _ => 0)))]) [0, 1] (by decide) rfl
      have hKc := hK.sub (tys' := [(cI, .int)]) [0] rfl
      have hFc := va_free (wc := [(h0, .inr (4, [.ref q1, .ref q2, .ref q3, .ref q4, .ref q5, .int tk, .int 0, .int 3, .int 20, .int 0, .int 0, .int 0, .int 0])), (q5, .inl (cI, 7, .inl (fun _ => 0)))]) hD hS hA [0, 1] rfl
      refine va_calli (va_runV (As := [.int (-1)]) (rest := []) ⟨hx, hb, hml, hown, hts⟩ (k_X3_refuse1 l dC dI h0 q1 q2 q3 q4 q5 cI tk s.heap.size) (cwV 1 hts gX3_rule_X3_refuse rfl rfl rfl (by decide +kernel) ⟨Nat.le_of_ble_eq_true rfl, Nat.le_of_ble_eq_true rfl⟩) ⟨pz_blind, va_recv hKc hPc (ci := 4) (q0 := 0) rfl rfl, fun U hU hW => ⟨rfl, pz_at hPc hKc hDc hU hW⟩⟩ rfl rfl hl.1 rfl (lv_room (Nat.le_of_ble_eq_true rfl)) dX3_rule_11 ⟨Nat.le_of_ble_eq_true rfl, Nat.le_of_ble_eq_true rfl⟩) hS (fun q _ h => hFc q h) hFc (fun r_4 u t H locs ht hvm hw hB hz1 hk1 hS => ?_)
      obtain ⟨hP, hD⟩ := va_join (wr := []) (w1 := []) hP hD [0, 1] [] rfl rfl (by decide) (by decide) hk1 hFc pz_nilP pz_nilD
      have hP : va_P (dC, dI) vwCl [] H := hP
      have hD : va_D A [] := hD
      have hw : r_4 = (-1) := hw
      subst hw
      exact W.iret (v := (-1)) hx hb hr (fun t ht hW => ⟨⟨(-1), (), rfl, (by unfold ex_rule; (repeat' split) <;> first | rfl | omega), trivial⟩, hS.F ht⟩) hS.2.2 dX3_rule_14

set_option maxHeartbeats 4000000 in
set_option maxRecDepth 100000 in
theorem k_X3_limit (l : Launch) (dC : Nat → ClassId) (dI : Nat → Nat → Nat) (h0 : Nat) (q1 : Nat) (q2 : Nat) (q3 : Nat) (q4 : Nat) (q5 : Nat) (cI : ClassId) (tk : Int32) (a1 : Int32) (sz : Nat) : Met l yX3_limit wsX3_limit ({ frames := 1, cells := 0, slots := 0, locals := 22 }) (va_Pc [.ref h0, .int a1] (pzPre (dC, dI) vwCl [(h0, .inr (4, [.ref q1, .ref q2, .ref q3, .ref q4, .ref q5, .int tk, .int 0, .int 3, .int 20, .int 0, .int 0, .int 0, .int 0])), (q5, .inl (cI, 7, .inl (fun _ => 0)))] [(cI, .int)] sz)) (va_Qi (fun (r : Int32) (_ : Unit) => r = ex_limit a1) (fun _ _ => True) (va_A [(h0, .inr (4, [.ref q1, .ref q2, .ref q3, .ref q4, .ref q5, .int tk, .int 0, .int 3, .int 20, .int 0, .int 0, .int 0, .int 0])), (q5, .inl (cI, 7, .inl (fun _ => 0)))] sz)) 0 0 (va_A [(h0, .inr (4, [.ref q1, .ref q2, .ref q3, .ref q4, .ref q5, .int tk, .int 0, .int 3, .int 20, .int 0, .int 0, .int 0, .int 0])), (q5, .inl (cI, 7, .inl (fun _ => 0)))] sz) := by
  refine Met.ofW (cc := cX3_limit) (maxL := 4) (ret := (some .int)) (by decide) rfl ?_
  intro p e s m args below meth c s₁ B hml hv
  obtain ⟨rfl, hsz, hP, hK, hD0⟩ := hv
  have hx := B.exec
  have hb := B.bytes
  have hr := B.returns
  have hts := atoms_spec (ws := wsX3_limit) B.pre
  have hown : s.vm.findClass RX3 = some m.cls := findClass_of_methodNamed B.named
  have hlocks := B.notSynchronized
  subst hsz
  have hD := hD0.self (sz := s.heap.size)
  generalize hAe : va_A [(h0, .inr (4, [.ref q1, .ref q2, .ref q3, .ref q4, .ref q5, .int tk, .int 0, .int 3, .int 20, .int 0, .int 0, .int 0, .int 0])), (q5, .inl (cI, 7, .inl (fun _ => 0)))] s.heap.size = A at hD ⊢
  have hA : ∀ q : Nat, s.heap.size ≤ q → A q := fun q h => by rw [← hAe]; exact Or.inr h
  have hS : va_S A s.heap s.heap [] := va_S.rf
  have hP : va_P (dC, dI) vwCl [(h0, .inr (4, [.ref q1, .ref q2, .ref q3, .ref q4, .ref q5, .int tk, .int 0, .int 3, .int 20, .int 0, .int 0, .int 0, .int 0])), (q5, .inl (cI, 7, .inl (fun _ => 0)))] s.heap := hP
  have hl := lv_entry ([.ref h0, .int a1]) (n := 4) (Nat.le_of_ble_eq_true rfl)
  rw [lg_entry_eq]
  generalize (lg_sl ([.ref h0, .int a1]) ++ List.replicate (4 - (lg_sl ([.ref h0, .int a1])).length) Slot.unset).toArray = ls at hl ⊢
  have hl : lv_has ls 4 [(0, .ref h0), (1, .int a1)] := hl
  refine lv_iload_n hx hb dX3_limit_0 rfl (lv_at hl 1 rfl) ?_
  refine lv_iconst (v := 1) hx hb dX3_limit_1 (by decide) ?_
  refine lv_bipush (v := 10) hx hb dX3_limit_2 (by decide) ?_
  have hPc := hP.sub (ws' := []) [] rfl
  have hDc := hD.sub (ws' := []) [] (by decide) rfl
  have hKc := hK.sub (tys' := []) [] rfl
  have hFc := pz_f hA hS
  refine va_calli (va_runS (As := [.int a1, .int 1, .int 10]) (rest := []) ⟨hx, hb, hml, hown, hts⟩ (k_X3_faultOf l dC dI a1 1 10 s.heap.size) (va_cwS 3 hts gX3_limit_X3_faultOf rfl rfl rfl (by decide +kernel) ⟨Nat.le_of_ble_eq_true rfl, Nat.le_of_ble_eq_true rfl⟩) ⟨pz_blind, fun U hU hW => ⟨rfl, pz_at hPc hKc hDc hU hW⟩⟩ rfl rfl hl.1 rfl (lv_room (Nat.le_of_ble_eq_true rfl)) dX3_limit_4 ⟨Nat.le_of_ble_eq_true rfl, Nat.le_of_ble_eq_true rfl⟩) hS (fun q _ h => hFc q h) hFc (fun r_1 u t H locs ht hvm hw hB hz1 hk1 hS => ?_)
  have hP := pz_keep hP hk1
  rcases hw with ⟨f_1_0, hr9⟩ | ⟨f_1_0, f_1_1, hr9⟩ | ⟨f_1_0, f_1_1, hr9⟩
  · skip
    have hr9 : r_1 = (-4) := hr9
    subst hr9
    have f_1_0 : a1.toInt < 1 := f_1_0
    refine lv_istore_n (lv' := [(2, .int (-4)), (0, .ref h0), (1, .int a1)]) hx hb dX3_limit_7 rfl hl (by decide) rfl (fun ls hl => ?_)
    refine lv_iload_n hx hb dX3_limit_8 rfl (lv_at hl 0 rfl) ?_
    refine lv_if_eq (tgt := 18) hx hb dX3_limit_9 (by decide) (fun c_2 => absurd c_2 (by decide)) (fun c_2 => ?_)
    refine lv_aload_n hx hb dX3_limit_12 rfl (lv_at hl 1 rfl) ?_
    refine lv_iload_n hx hb dX3_limit_13 rfl (lv_at hl 0 rfl) ?_
    have hPc := hP.sub (ws' := [(h0, .inr (4, [.ref q1, .ref q2, .ref q3, .ref q4, .ref q5, .int tk, .int 0, .int 3, .int 20, .int 0, .int 0, .int 0, .int 0])), (q5, .inl (cI, 7, .inl (fun _ => 0)))]) [0, 1] rfl
    have hDc := hD.sub (ws' := [(h0, .inr (4, [.ref q1, .ref q2, .ref q3, .ref q4, .ref q5, .int tk, .int 0, .int 3, .int 20, .int 0, .int 0, .int 0, .int 0])), (q5, .inl (cI, 7, .inl (fun _ => 0)))]) [0, 1] (by decide) rfl
    have hKc := hK.sub (tys' := [(cI, .int)]) [0] rfl
    have hFc := va_free (wc := [(h0, .inr (4, [.ref q1, .ref q2, .ref q3, .ref q4, .ref q5, .int tk, .int 0, .int 3, .int 20, .int 0, .int 0, .int 0, .int 0])), (q5, .inl (cI, 7, .inl (fun _ => 0)))]) hD hS hA [0, 1] rfl
    refine va_calli (va_runV (As := [.int (-4)]) (rest := []) ⟨hx, hb, hml, hown, hts⟩ (k_X3_refuse4 l dC dI h0 q1 q2 q3 q4 q5 cI tk H.size) (cwV 1 hts gX3_limit_X3_refuse rfl rfl rfl (by decide +kernel) ⟨Nat.le_of_ble_eq_true rfl, Nat.le_of_ble_eq_true rfl⟩) ⟨pz_blind, va_recv hKc hPc (ci := 4) (q0 := 0) rfl rfl, fun U hU hW => ⟨rfl, pz_at hPc hKc hDc hU hW⟩⟩ rfl rfl hl.1 rfl (lv_room (Nat.le_of_ble_eq_true rfl)) dX3_limit_14 ⟨Nat.le_of_ble_eq_true rfl, Nat.le_of_ble_eq_true rfl⟩) hS (fun q _ h => hFc q h) hFc (fun r_3 u t H locs ht hvm hw hB hz1 hk1 hS => ?_)
    obtain ⟨hP, hD⟩ := va_join (wr := []) (w1 := []) hP hD [0, 1] [] rfl rfl (by decide) (by decide) hk1 hFc pz_nilP pz_nilD
    have hP : va_P (dC, dI) vwCl [] H := hP
    have hD : va_D A [] := hD
    have hw : r_3 = (-4) := hw
    subst hw
    exact W.iret (v := (-4)) hx hb hr (fun t ht hW => ⟨⟨(-4), (), rfl, (by unfold ex_limit; (repeat' split) <;> first | rfl | omega), trivial⟩, hS.F ht⟩) hS.2.2 dX3_limit_17
  · skip
    have hr9 : r_1 = (-6) := hr9
    subst hr9
    have f_1_0 : 1 ≤ a1.toInt := f_1_0
    have f_1_1 : 10 < a1.toInt := f_1_1
    refine lv_istore_n (lv' := [(2, .int (-6)), (0, .ref h0), (1, .int a1)]) hx hb dX3_limit_7 rfl hl (by decide) rfl (fun ls hl => ?_)
    refine lv_iload_n hx hb dX3_limit_8 rfl (lv_at hl 0 rfl) ?_
    refine lv_if_eq (tgt := 18) hx hb dX3_limit_9 (by decide) (fun c_4 => absurd c_4 (by decide)) (fun c_4 => ?_)
    refine lv_aload_n hx hb dX3_limit_12 rfl (lv_at hl 1 rfl) ?_
    refine lv_iload_n hx hb dX3_limit_13 rfl (lv_at hl 0 rfl) ?_
    have hPc := hP.sub (ws' := [(h0, .inr (4, [.ref q1, .ref q2, .ref q3, .ref q4, .ref q5, .int tk, .int 0, .int 3, .int 20, .int 0, .int 0, .int 0, .int 0])), (q5, .inl (cI, 7, .inl (fun _ => 0)))]) [0, 1] rfl
    have hDc := hD.sub (ws' := [(h0, .inr (4, [.ref q1, .ref q2, .ref q3, .ref q4, .ref q5, .int tk, .int 0, .int 3, .int 20, .int 0, .int 0, .int 0, .int 0])), (q5, .inl (cI, 7, .inl (fun _ => 0)))]) [0, 1] (by decide) rfl
    have hKc := hK.sub (tys' := [(cI, .int)]) [0] rfl
    have hFc := va_free (wc := [(h0, .inr (4, [.ref q1, .ref q2, .ref q3, .ref q4, .ref q5, .int tk, .int 0, .int 3, .int 20, .int 0, .int 0, .int 0, .int 0])), (q5, .inl (cI, 7, .inl (fun _ => 0)))]) hD hS hA [0, 1] rfl
    refine va_calli (va_runV (As := [.int (-6)]) (rest := []) ⟨hx, hb, hml, hown, hts⟩ (k_X3_refuse6 l dC dI h0 q1 q2 q3 q4 q5 cI tk H.size) (cwV 1 hts gX3_limit_X3_refuse rfl rfl rfl (by decide +kernel) ⟨Nat.le_of_ble_eq_true rfl, Nat.le_of_ble_eq_true rfl⟩) ⟨pz_blind, va_recv hKc hPc (ci := 4) (q0 := 0) rfl rfl, fun U hU hW => ⟨rfl, pz_at hPc hKc hDc hU hW⟩⟩ rfl rfl hl.1 rfl (lv_room (Nat.le_of_ble_eq_true rfl)) dX3_limit_14 ⟨Nat.le_of_ble_eq_true rfl, Nat.le_of_ble_eq_true rfl⟩) hS (fun q _ h => hFc q h) hFc (fun r_5 u t H locs ht hvm hw hB hz1 hk1 hS => ?_)
    obtain ⟨hP, hD⟩ := va_join (wr := []) (w1 := []) hP hD [0, 1] [] rfl rfl (by decide) (by decide) hk1 hFc pz_nilP pz_nilD
    have hP : va_P (dC, dI) vwCl [] H := hP
    have hD : va_D A [] := hD
    have hw : r_5 = (-6) := hw
    subst hw
    exact W.iret (v := (-6)) hx hb hr (fun t ht hW => ⟨⟨(-6), (), rfl, (by unfold ex_limit; (repeat' split) <;> first | rfl | omega), trivial⟩, hS.F ht⟩) hS.2.2 dX3_limit_17
  · skip
    have hr9 : r_1 = 0 := hr9
    subst hr9
    have f_1_0 : 1 ≤ a1.toInt := f_1_0
    have f_1_1 : a1.toInt ≤ 10 := f_1_1
    refine lv_istore_n (lv' := [(2, .int 0), (0, .ref h0), (1, .int a1)]) hx hb dX3_limit_7 rfl hl (by decide) rfl (fun ls hl => ?_)
    refine lv_iload_n hx hb dX3_limit_8 rfl (lv_at hl 0 rfl) ?_
    refine lv_if_eq (tgt := 18) hx hb dX3_limit_9 (by decide) (fun c_6 => ?_) (fun c_6 => absurd (by decide) c_6)
    refine lv_aload_n hx hb dX3_limit_18 rfl (lv_at hl 1 rfl) ?_
    refine va_get (D := (dC, dI)) (ci := 4) (v := .int 3) (C := RX3) (T := TX3) (N := 13) hx hb hts (fun _ h => List.mem_cons_of_mem _ (List.mem_append_right _ h)) hown hK hP 0 rfl rfl 7 (by decide) (hts (.fieldLink RX3 33 "FrontDoor" "limitNow" "I") (by decide +kernel)) (fun _ h9 => h9) rfl dX3_limit_19 ?_
    refine lv_istore_n (lv' := [(3, .int 3), (2, .int 0), (0, .ref h0), (1, .int a1)]) hx hb dX3_limit_22 rfl hl (by decide) rfl (fun ls hl => ?_)
    refine lv_aload_n hx hb dX3_limit_23 rfl (lv_at hl 2 rfl) ?_
    refine lv_iload_n hx hb dX3_limit_24 rfl (lv_at hl 3 rfl) ?_
    refine va_put (D := (dC, dI)) (ci := 4) (v := .int a1) (ty := .int) (C := RX3) (T := TX3) (N := 13) hx hb hts (fun _ h => List.mem_cons_of_mem _ (List.mem_append_right _ h)) tyX3 tyX3_ok nmX3 hown hK hP hD hS 0 rfl rfl 7 (by decide) (hts (.fieldLink RX3 33 "FrontDoor" "limitNow" "I") (by decide +kernel)) (fun _ h9 => h9) rfl (by decide +kernel) rfl rfl (Nat.le_of_ble_eq_true rfl) dX3_limit_25 (fun H locs hP hD hS => ?_)
    have hP : va_P (dC, dI) vwCl [(h0, .inr (4, [.ref q1, .ref q2, .ref q3, .ref q4, .ref q5, .int tk, .int 0, .int a1, .int 20, .int 0, .int 0, .int 0, .int 0])), (q5, .inl (cI, 7, .inl (fun _ => 0)))] H := hP
    have hD : va_D A [(h0, .inr (4, [.ref q1, .ref q2, .ref q3, .ref q4, .ref q5, .int tk, .int 0, .int a1, .int 20, .int 0, .int 0, .int 0, .int 0])), (q5, .inl (cI, 7, .inl (fun _ => 0)))] := hD
    refine lv_iload_n hx hb dX3_limit_28 rfl (lv_at hl 0 rfl) ?_
    exact W.iret (v := 3) hx hb hr (fun t ht hW => ⟨⟨3, (), rfl, (by unfold ex_limit; (repeat' split) <;> first | rfl | omega), trivial⟩, hS.F ht⟩) hS.2.2 dX3_limit_29

set_option maxHeartbeats 4000000 in
set_option maxRecDepth 100000 in
theorem k_X3_budget (l : Launch) (dC : Nat → ClassId) (dI : Nat → Nat → Nat) (h0 : Nat) (q1 : Nat) (q2 : Nat) (q3 : Nat) (q4 : Nat) (q5 : Nat) (cI : ClassId) (tk : Int32) (a1 : Int32) (sz : Nat) : Met l yX3_budget wsX3_budget ({ frames := 1, cells := 0, slots := 0, locals := 22 }) (va_Pc [.ref h0, .int a1] (pzPre (dC, dI) vwCl [(h0, .inr (4, [.ref q1, .ref q2, .ref q3, .ref q4, .ref q5, .int tk, .int 0, .int 3, .int 20, .int 0, .int 0, .int 0, .int 0])), (q5, .inl (cI, 7, .inl (fun _ => 0)))] [(cI, .int)] sz)) (va_Qi (fun (r : Int32) (_ : Unit) => r = ex_budget a1) (fun _ _ => True) (va_A [(h0, .inr (4, [.ref q1, .ref q2, .ref q3, .ref q4, .ref q5, .int tk, .int 0, .int 3, .int 20, .int 0, .int 0, .int 0, .int 0])), (q5, .inl (cI, 7, .inl (fun _ => 0)))] sz)) 0 0 (va_A [(h0, .inr (4, [.ref q1, .ref q2, .ref q3, .ref q4, .ref q5, .int tk, .int 0, .int 3, .int 20, .int 0, .int 0, .int 0, .int 0])), (q5, .inl (cI, 7, .inl (fun _ => 0)))] sz) := by
  refine Met.ofW (cc := cX3_budget) (maxL := 4) (ret := (some .int)) (by decide) rfl ?_
  intro p e s m args below meth c s₁ B hml hv
  obtain ⟨rfl, hsz, hP, hK, hD0⟩ := hv
  have hx := B.exec
  have hb := B.bytes
  have hr := B.returns
  have hts := atoms_spec (ws := wsX3_budget) B.pre
  have hown : s.vm.findClass RX3 = some m.cls := findClass_of_methodNamed B.named
  have hlocks := B.notSynchronized
  subst hsz
  have hD := hD0.self (sz := s.heap.size)
  generalize hAe : va_A [(h0, .inr (4, [.ref q1, .ref q2, .ref q3, .ref q4, .ref q5, .int tk, .int 0, .int 3, .int 20, .int 0, .int 0, .int 0, .int 0])), (q5, .inl (cI, 7, .inl (fun _ => 0)))] s.heap.size = A at hD ⊢
  have hA : ∀ q : Nat, s.heap.size ≤ q → A q := fun q h => by rw [← hAe]; exact Or.inr h
  have hS : va_S A s.heap s.heap [] := va_S.rf
  have hP : va_P (dC, dI) vwCl [(h0, .inr (4, [.ref q1, .ref q2, .ref q3, .ref q4, .ref q5, .int tk, .int 0, .int 3, .int 20, .int 0, .int 0, .int 0, .int 0])), (q5, .inl (cI, 7, .inl (fun _ => 0)))] s.heap := hP
  have hl := lv_entry ([.ref h0, .int a1]) (n := 4) (Nat.le_of_ble_eq_true rfl)
  rw [lg_entry_eq]
  generalize (lg_sl ([.ref h0, .int a1]) ++ List.replicate (4 - (lg_sl ([.ref h0, .int a1])).length) Slot.unset).toArray = ls at hl ⊢
  have hl : lv_has ls 4 [(0, .ref h0), (1, .int a1)] := hl
  refine lv_iload_n hx hb dX3_budget_0 rfl (lv_at hl 1 rfl) ?_
  refine lv_iconst (v := 0) hx hb dX3_budget_1 (by decide) ?_
  refine lv_bipush (v := 100) hx hb dX3_budget_2 (by decide) ?_
  have hPc := hP.sub (ws' := []) [] rfl
  have hDc := hD.sub (ws' := []) [] (by decide) rfl
  have hKc := hK.sub (tys' := []) [] rfl
  have hFc := pz_f hA hS
  refine va_calli (va_runS (As := [.int a1, .int 0, .int 100]) (rest := []) ⟨hx, hb, hml, hown, hts⟩ (k_X3_faultOf l dC dI a1 0 100 s.heap.size) (va_cwS 3 hts gX3_budget_X3_faultOf rfl rfl rfl (by decide +kernel) ⟨Nat.le_of_ble_eq_true rfl, Nat.le_of_ble_eq_true rfl⟩) ⟨pz_blind, fun U hU hW => ⟨rfl, pz_at hPc hKc hDc hU hW⟩⟩ rfl rfl hl.1 rfl (lv_room (Nat.le_of_ble_eq_true rfl)) dX3_budget_4 ⟨Nat.le_of_ble_eq_true rfl, Nat.le_of_ble_eq_true rfl⟩) hS (fun q _ h => hFc q h) hFc (fun r_1 u t H locs ht hvm hw hB hz1 hk1 hS => ?_)
  have hP := pz_keep hP hk1
  rcases hw with ⟨f_1_0, hr9⟩ | ⟨f_1_0, f_1_1, hr9⟩ | ⟨f_1_0, f_1_1, hr9⟩
  · skip
    have hr9 : r_1 = (-4) := hr9
    subst hr9
    have f_1_0 : a1.toInt < 0 := f_1_0
    refine lv_istore_n (lv' := [(2, .int (-4)), (0, .ref h0), (1, .int a1)]) hx hb dX3_budget_7 rfl hl (by decide) rfl (fun ls hl => ?_)
    refine lv_iload_n hx hb dX3_budget_8 rfl (lv_at hl 0 rfl) ?_
    refine lv_if_eq (tgt := 18) hx hb dX3_budget_9 (by decide) (fun c_2 => absurd c_2 (by decide)) (fun c_2 => ?_)
    refine lv_aload_n hx hb dX3_budget_12 rfl (lv_at hl 1 rfl) ?_
    refine lv_iload_n hx hb dX3_budget_13 rfl (lv_at hl 0 rfl) ?_
    have hPc := hP.sub (ws' := [(h0, .inr (4, [.ref q1, .ref q2, .ref q3, .ref q4, .ref q5, .int tk, .int 0, .int 3, .int 20, .int 0, .int 0, .int 0, .int 0])), (q5, .inl (cI, 7, .inl (fun _ => 0)))]) [0, 1] rfl
    have hDc := hD.sub (ws' := [(h0, .inr (4, [.ref q1, .ref q2, .ref q3, .ref q4, .ref q5, .int tk, .int 0, .int 3, .int 20, .int 0, .int 0, .int 0, .int 0])), (q5, .inl (cI, 7, .inl (fun _ => 0)))]) [0, 1] (by decide) rfl
    have hKc := hK.sub (tys' := [(cI, .int)]) [0] rfl
    have hFc := va_free (wc := [(h0, .inr (4, [.ref q1, .ref q2, .ref q3, .ref q4, .ref q5, .int tk, .int 0, .int 3, .int 20, .int 0, .int 0, .int 0, .int 0])), (q5, .inl (cI, 7, .inl (fun _ => 0)))]) hD hS hA [0, 1] rfl
    refine va_calli (va_runV (As := [.int (-4)]) (rest := []) ⟨hx, hb, hml, hown, hts⟩ (k_X3_refuse4 l dC dI h0 q1 q2 q3 q4 q5 cI tk H.size) (cwV 1 hts gX3_budget_X3_refuse rfl rfl rfl (by decide +kernel) ⟨Nat.le_of_ble_eq_true rfl, Nat.le_of_ble_eq_true rfl⟩) ⟨pz_blind, va_recv hKc hPc (ci := 4) (q0 := 0) rfl rfl, fun U hU hW => ⟨rfl, pz_at hPc hKc hDc hU hW⟩⟩ rfl rfl hl.1 rfl (lv_room (Nat.le_of_ble_eq_true rfl)) dX3_budget_14 ⟨Nat.le_of_ble_eq_true rfl, Nat.le_of_ble_eq_true rfl⟩) hS (fun q _ h => hFc q h) hFc (fun r_3 u t H locs ht hvm hw hB hz1 hk1 hS => ?_)
    obtain ⟨hP, hD⟩ := va_join (wr := []) (w1 := []) hP hD [0, 1] [] rfl rfl (by decide) (by decide) hk1 hFc pz_nilP pz_nilD
    have hP : va_P (dC, dI) vwCl [] H := hP
    have hD : va_D A [] := hD
    have hw : r_3 = (-4) := hw
    subst hw
    exact W.iret (v := (-4)) hx hb hr (fun t ht hW => ⟨⟨(-4), (), rfl, (by unfold ex_budget; (repeat' split) <;> first | rfl | omega), trivial⟩, hS.F ht⟩) hS.2.2 dX3_budget_17
  · skip
    have hr9 : r_1 = (-6) := hr9
    subst hr9
    have f_1_0 : 0 ≤ a1.toInt := f_1_0
    have f_1_1 : 100 < a1.toInt := f_1_1
    refine lv_istore_n (lv' := [(2, .int (-6)), (0, .ref h0), (1, .int a1)]) hx hb dX3_budget_7 rfl hl (by decide) rfl (fun ls hl => ?_)
    refine lv_iload_n hx hb dX3_budget_8 rfl (lv_at hl 0 rfl) ?_
    refine lv_if_eq (tgt := 18) hx hb dX3_budget_9 (by decide) (fun c_4 => absurd c_4 (by decide)) (fun c_4 => ?_)
    refine lv_aload_n hx hb dX3_budget_12 rfl (lv_at hl 1 rfl) ?_
    refine lv_iload_n hx hb dX3_budget_13 rfl (lv_at hl 0 rfl) ?_
    have hPc := hP.sub (ws' := [(h0, .inr (4, [.ref q1, .ref q2, .ref q3, .ref q4, .ref q5, .int tk, .int 0, .int 3, .int 20, .int 0, .int 0, .int 0, .int 0])), (q5, .inl (cI, 7, .inl (fun _ => 0)))]) [0, 1] rfl
    have hDc := hD.sub (ws' := [(h0, .inr (4, [.ref q1, .ref q2, .ref q3, .ref q4, .ref q5, .int tk, .int 0, .int 3, .int 20, .int 0, .int 0, .int 0, .int 0])), (q5, .inl (cI, 7, .inl (fun _ => 0)))]) [0, 1] (by decide) rfl
    have hKc := hK.sub (tys' := [(cI, .int)]) [0] rfl
    have hFc := va_free (wc := [(h0, .inr (4, [.ref q1, .ref q2, .ref q3, .ref q4, .ref q5, .int tk, .int 0, .int 3, .int 20, .int 0, .int 0, .int 0, .int 0])), (q5, .inl (cI, 7, .inl (fun _ => 0)))]) hD hS hA [0, 1] rfl
    refine va_calli (va_runV (As := [.int (-6)]) (rest := []) ⟨hx, hb, hml, hown, hts⟩ (k_X3_refuse6 l dC dI h0 q1 q2 q3 q4 q5 cI tk H.size) (cwV 1 hts gX3_budget_X3_refuse rfl rfl rfl (by decide +kernel) ⟨Nat.le_of_ble_eq_true rfl, Nat.le_of_ble_eq_true rfl⟩) ⟨pz_blind, va_recv hKc hPc (ci := 4) (q0 := 0) rfl rfl, fun U hU hW => ⟨rfl, pz_at hPc hKc hDc hU hW⟩⟩ rfl rfl hl.1 rfl (lv_room (Nat.le_of_ble_eq_true rfl)) dX3_budget_14 ⟨Nat.le_of_ble_eq_true rfl, Nat.le_of_ble_eq_true rfl⟩) hS (fun q _ h => hFc q h) hFc (fun r_5 u t H locs ht hvm hw hB hz1 hk1 hS => ?_)
    obtain ⟨hP, hD⟩ := va_join (wr := []) (w1 := []) hP hD [0, 1] [] rfl rfl (by decide) (by decide) hk1 hFc pz_nilP pz_nilD
    have hP : va_P (dC, dI) vwCl [] H := hP
    have hD : va_D A [] := hD
    have hw : r_5 = (-6) := hw
    subst hw
    exact W.iret (v := (-6)) hx hb hr (fun t ht hW => ⟨⟨(-6), (), rfl, (by unfold ex_budget; (repeat' split) <;> first | rfl | omega), trivial⟩, hS.F ht⟩) hS.2.2 dX3_budget_17
  · skip
    have hr9 : r_1 = 0 := hr9
    subst hr9
    have f_1_0 : 0 ≤ a1.toInt := f_1_0
    have f_1_1 : a1.toInt ≤ 100 := f_1_1
    refine lv_istore_n (lv' := [(2, .int 0), (0, .ref h0), (1, .int a1)]) hx hb dX3_budget_7 rfl hl (by decide) rfl (fun ls hl => ?_)
    refine lv_iload_n hx hb dX3_budget_8 rfl (lv_at hl 0 rfl) ?_
    refine lv_if_eq (tgt := 18) hx hb dX3_budget_9 (by decide) (fun c_6 => ?_) (fun c_6 => absurd (by decide) c_6)
    refine lv_aload_n hx hb dX3_budget_18 rfl (lv_at hl 1 rfl) ?_
    refine va_get (D := (dC, dI)) (ci := 4) (v := .int 20) (C := RX3) (T := TX3) (N := 13) hx hb hts (fun _ h => List.mem_cons_of_mem _ (List.mem_append_right _ h)) hown hK hP 0 rfl rfl 8 (by decide) (hts (.fieldLink RX3 36 "FrontDoor" "budgetNow" "I") (by decide +kernel)) (fun _ h9 => h9) rfl dX3_budget_19 ?_
    refine lv_istore_n (lv' := [(3, .int 20), (2, .int 0), (0, .ref h0), (1, .int a1)]) hx hb dX3_budget_22 rfl hl (by decide) rfl (fun ls hl => ?_)
    refine lv_aload_n hx hb dX3_budget_23 rfl (lv_at hl 2 rfl) ?_
    refine lv_iload_n hx hb dX3_budget_24 rfl (lv_at hl 3 rfl) ?_
    refine va_put (D := (dC, dI)) (ci := 4) (v := .int a1) (ty := .int) (C := RX3) (T := TX3) (N := 13) hx hb hts (fun _ h => List.mem_cons_of_mem _ (List.mem_append_right _ h)) tyX3 tyX3_ok nmX3 hown hK hP hD hS 0 rfl rfl 8 (by decide) (hts (.fieldLink RX3 36 "FrontDoor" "budgetNow" "I") (by decide +kernel)) (fun _ h9 => h9) rfl (by decide +kernel) rfl rfl (Nat.le_of_ble_eq_true rfl) dX3_budget_25 (fun H locs hP hD hS => ?_)
    have hP : va_P (dC, dI) vwCl [(h0, .inr (4, [.ref q1, .ref q2, .ref q3, .ref q4, .ref q5, .int tk, .int 0, .int 3, .int a1, .int 0, .int 0, .int 0, .int 0])), (q5, .inl (cI, 7, .inl (fun _ => 0)))] H := hP
    have hD : va_D A [(h0, .inr (4, [.ref q1, .ref q2, .ref q3, .ref q4, .ref q5, .int tk, .int 0, .int 3, .int a1, .int 0, .int 0, .int 0, .int 0])), (q5, .inl (cI, 7, .inl (fun _ => 0)))] := hD
    refine lv_iload_n hx hb dX3_budget_28 rfl (lv_at hl 0 rfl) ?_
    exact W.iret (v := 20) hx hb hr (fun t ht hW => ⟨⟨20, (), rfl, (by unfold ex_budget; (repeat' split) <;> first | rfl | omega), trivial⟩, hS.F ht⟩) hS.2.2 dX3_budget_29

set_option maxHeartbeats 4000000 in
set_option maxRecDepth 100000 in
theorem k_X3_hedge (l : Launch) (dC : Nat → ClassId) (dI : Nat → Nat → Nat) (h0 : Nat) (q1 : Nat) (q2 : Nat) (q3 : Nat) (q4 : Nat) (q5 : Nat) (cI : ClassId) (tk : Int32) (a1 : Int32) (sz : Nat) : Met l yX3_hedge wsX3_hedge ({ frames := 1, cells := 0, slots := 0, locals := 22 }) (va_Pc [.ref h0, .int a1] (pzPre (dC, dI) vwCl [(h0, .inr (4, [.ref q1, .ref q2, .ref q3, .ref q4, .ref q5, .int tk, .int 0, .int 3, .int 20, .int 0, .int 0, .int 0, .int 0])), (q5, .inl (cI, 7, .inl (fun _ => 0)))] [(cI, .int)] sz)) (va_Qi (fun (r : Int32) (_ : Unit) => r = ex_hedge a1) (fun _ _ => True) (va_A [(h0, .inr (4, [.ref q1, .ref q2, .ref q3, .ref q4, .ref q5, .int tk, .int 0, .int 3, .int 20, .int 0, .int 0, .int 0, .int 0])), (q5, .inl (cI, 7, .inl (fun _ => 0)))] sz)) 0 0 (va_A [(h0, .inr (4, [.ref q1, .ref q2, .ref q3, .ref q4, .ref q5, .int tk, .int 0, .int 3, .int 20, .int 0, .int 0, .int 0, .int 0])), (q5, .inl (cI, 7, .inl (fun _ => 0)))] sz) := by
  refine Met.ofW (cc := cX3_hedge) (maxL := 4) (ret := (some .int)) (by decide) rfl ?_
  intro p e s m args below meth c s₁ B hml hv
  obtain ⟨rfl, hsz, hP, hK, hD0⟩ := hv
  have hx := B.exec
  have hb := B.bytes
  have hr := B.returns
  have hts := atoms_spec (ws := wsX3_hedge) B.pre
  have hown : s.vm.findClass RX3 = some m.cls := findClass_of_methodNamed B.named
  have hlocks := B.notSynchronized
  subst hsz
  have hD := hD0.self (sz := s.heap.size)
  generalize hAe : va_A [(h0, .inr (4, [.ref q1, .ref q2, .ref q3, .ref q4, .ref q5, .int tk, .int 0, .int 3, .int 20, .int 0, .int 0, .int 0, .int 0])), (q5, .inl (cI, 7, .inl (fun _ => 0)))] s.heap.size = A at hD ⊢
  have hA : ∀ q : Nat, s.heap.size ≤ q → A q := fun q h => by rw [← hAe]; exact Or.inr h
  have hS : va_S A s.heap s.heap [] := va_S.rf
  have hP : va_P (dC, dI) vwCl [(h0, .inr (4, [.ref q1, .ref q2, .ref q3, .ref q4, .ref q5, .int tk, .int 0, .int 3, .int 20, .int 0, .int 0, .int 0, .int 0])), (q5, .inl (cI, 7, .inl (fun _ => 0)))] s.heap := hP
  have hl := lv_entry ([.ref h0, .int a1]) (n := 4) (Nat.le_of_ble_eq_true rfl)
  rw [lg_entry_eq]
  generalize (lg_sl ([.ref h0, .int a1]) ++ List.replicate (4 - (lg_sl ([.ref h0, .int a1])).length) Slot.unset).toArray = ls at hl ⊢
  have hl : lv_has ls 4 [(0, .ref h0), (1, .int a1)] := hl
  refine lv_iload_n hx hb dX3_hedge_0 rfl (lv_at hl 1 rfl) ?_
  refine lv_iconst (v := 0) hx hb dX3_hedge_1 (by decide) ?_
  refine lv_sipush (v := 500) hx hb dX3_hedge_2 (by decide) ?_
  have hPc := hP.sub (ws' := []) [] rfl
  have hDc := hD.sub (ws' := []) [] (by decide) rfl
  have hKc := hK.sub (tys' := []) [] rfl
  have hFc := pz_f hA hS
  refine va_calli (va_runS (As := [.int a1, .int 0, .int 500]) (rest := []) ⟨hx, hb, hml, hown, hts⟩ (k_X3_faultOf l dC dI a1 0 500 s.heap.size) (va_cwS 3 hts gX3_hedge_X3_faultOf rfl rfl rfl (by decide +kernel) ⟨Nat.le_of_ble_eq_true rfl, Nat.le_of_ble_eq_true rfl⟩) ⟨pz_blind, fun U hU hW => ⟨rfl, pz_at hPc hKc hDc hU hW⟩⟩ rfl rfl hl.1 rfl (lv_room (Nat.le_of_ble_eq_true rfl)) dX3_hedge_5 ⟨Nat.le_of_ble_eq_true rfl, Nat.le_of_ble_eq_true rfl⟩) hS (fun q _ h => hFc q h) hFc (fun r_1 u t H locs ht hvm hw hB hz1 hk1 hS => ?_)
  have hP := pz_keep hP hk1
  rcases hw with ⟨f_1_0, hr9⟩ | ⟨f_1_0, f_1_1, hr9⟩ | ⟨f_1_0, f_1_1, hr9⟩
  · skip
    have hr9 : r_1 = (-4) := hr9
    subst hr9
    have f_1_0 : a1.toInt < 0 := f_1_0
    refine lv_istore_n (lv' := [(2, .int (-4)), (0, .ref h0), (1, .int a1)]) hx hb dX3_hedge_8 rfl hl (by decide) rfl (fun ls hl => ?_)
    refine lv_iload_n hx hb dX3_hedge_9 rfl (lv_at hl 0 rfl) ?_
    refine lv_if_eq (tgt := 19) hx hb dX3_hedge_10 (by decide) (fun c_2 => absurd c_2 (by decide)) (fun c_2 => ?_)
    refine lv_aload_n hx hb dX3_hedge_13 rfl (lv_at hl 1 rfl) ?_
    refine lv_iload_n hx hb dX3_hedge_14 rfl (lv_at hl 0 rfl) ?_
    have hPc := hP.sub (ws' := [(h0, .inr (4, [.ref q1, .ref q2, .ref q3, .ref q4, .ref q5, .int tk, .int 0, .int 3, .int 20, .int 0, .int 0, .int 0, .int 0])), (q5, .inl (cI, 7, .inl (fun _ => 0)))]) [0, 1] rfl
    have hDc := hD.sub (ws' := [(h0, .inr (4, [.ref q1, .ref q2, .ref q3, .ref q4, .ref q5, .int tk, .int 0, .int 3, .int 20, .int 0, .int 0, .int 0, .int 0])), (q5, .inl (cI, 7, .inl (fun _ => 0)))]) [0, 1] (by decide) rfl
    have hKc := hK.sub (tys' := [(cI, .int)]) [0] rfl
    have hFc := va_free (wc := [(h0, .inr (4, [.ref q1, .ref q2, .ref q3, .ref q4, .ref q5, .int tk, .int 0, .int 3, .int 20, .int 0, .int 0, .int 0, .int 0])), (q5, .inl (cI, 7, .inl (fun _ => 0)))]) hD hS hA [0, 1] rfl
    refine va_calli (va_runV (As := [.int (-4)]) (rest := []) ⟨hx, hb, hml, hown, hts⟩ (k_X3_refuse4 l dC dI h0 q1 q2 q3 q4 q5 cI tk H.size) (cwV 1 hts gX3_hedge_X3_refuse rfl rfl rfl (by decide +kernel) ⟨Nat.le_of_ble_eq_true rfl, Nat.le_of_ble_eq_true rfl⟩) ⟨pz_blind, va_recv hKc hPc (ci := 4) (q0 := 0) rfl rfl, fun U hU hW => ⟨rfl, pz_at hPc hKc hDc hU hW⟩⟩ rfl rfl hl.1 rfl (lv_room (Nat.le_of_ble_eq_true rfl)) dX3_hedge_15 ⟨Nat.le_of_ble_eq_true rfl, Nat.le_of_ble_eq_true rfl⟩) hS (fun q _ h => hFc q h) hFc (fun r_3 u t H locs ht hvm hw hB hz1 hk1 hS => ?_)
    obtain ⟨hP, hD⟩ := va_join (wr := []) (w1 := []) hP hD [0, 1] [] rfl rfl (by decide) (by decide) hk1 hFc pz_nilP pz_nilD
    have hP : va_P (dC, dI) vwCl [] H := hP
    have hD : va_D A [] := hD
    have hw : r_3 = (-4) := hw
    subst hw
    exact W.iret (v := (-4)) hx hb hr (fun t ht hW => ⟨⟨(-4), (), rfl, (by unfold ex_hedge; (repeat' split) <;> first | rfl | omega), trivial⟩, hS.F ht⟩) hS.2.2 dX3_hedge_18
  · skip
    have hr9 : r_1 = (-6) := hr9
    subst hr9
    have f_1_0 : 0 ≤ a1.toInt := f_1_0
    have f_1_1 : 500 < a1.toInt := f_1_1
    refine lv_istore_n (lv' := [(2, .int (-6)), (0, .ref h0), (1, .int a1)]) hx hb dX3_hedge_8 rfl hl (by decide) rfl (fun ls hl => ?_)
    refine lv_iload_n hx hb dX3_hedge_9 rfl (lv_at hl 0 rfl) ?_
    refine lv_if_eq (tgt := 19) hx hb dX3_hedge_10 (by decide) (fun c_4 => absurd c_4 (by decide)) (fun c_4 => ?_)
    refine lv_aload_n hx hb dX3_hedge_13 rfl (lv_at hl 1 rfl) ?_
    refine lv_iload_n hx hb dX3_hedge_14 rfl (lv_at hl 0 rfl) ?_
    have hPc := hP.sub (ws' := [(h0, .inr (4, [.ref q1, .ref q2, .ref q3, .ref q4, .ref q5, .int tk, .int 0, .int 3, .int 20, .int 0, .int 0, .int 0, .int 0])), (q5, .inl (cI, 7, .inl (fun _ => 0)))]) [0, 1] rfl
    have hDc := hD.sub (ws' := [(h0, .inr (4, [.ref q1, .ref q2, .ref q3, .ref q4, .ref q5, .int tk, .int 0, .int 3, .int 20, .int 0, .int 0, .int 0, .int 0])), (q5, .inl (cI, 7, .inl (fun _ => 0)))]) [0, 1] (by decide) rfl
    have hKc := hK.sub (tys' := [(cI, .int)]) [0] rfl
    have hFc := va_free (wc := [(h0, .inr (4, [.ref q1, .ref q2, .ref q3, .ref q4, .ref q5, .int tk, .int 0, .int 3, .int 20, .int 0, .int 0, .int 0, .int 0])), (q5, .inl (cI, 7, .inl (fun _ => 0)))]) hD hS hA [0, 1] rfl
    refine va_calli (va_runV (As := [.int (-6)]) (rest := []) ⟨hx, hb, hml, hown, hts⟩ (k_X3_refuse6 l dC dI h0 q1 q2 q3 q4 q5 cI tk H.size) (cwV 1 hts gX3_hedge_X3_refuse rfl rfl rfl (by decide +kernel) ⟨Nat.le_of_ble_eq_true rfl, Nat.le_of_ble_eq_true rfl⟩) ⟨pz_blind, va_recv hKc hPc (ci := 4) (q0 := 0) rfl rfl, fun U hU hW => ⟨rfl, pz_at hPc hKc hDc hU hW⟩⟩ rfl rfl hl.1 rfl (lv_room (Nat.le_of_ble_eq_true rfl)) dX3_hedge_15 ⟨Nat.le_of_ble_eq_true rfl, Nat.le_of_ble_eq_true rfl⟩) hS (fun q _ h => hFc q h) hFc (fun r_5 u t H locs ht hvm hw hB hz1 hk1 hS => ?_)
    obtain ⟨hP, hD⟩ := va_join (wr := []) (w1 := []) hP hD [0, 1] [] rfl rfl (by decide) (by decide) hk1 hFc pz_nilP pz_nilD
    have hP : va_P (dC, dI) vwCl [] H := hP
    have hD : va_D A [] := hD
    have hw : r_5 = (-6) := hw
    subst hw
    exact W.iret (v := (-6)) hx hb hr (fun t ht hW => ⟨⟨(-6), (), rfl, (by unfold ex_hedge; (repeat' split) <;> first | rfl | omega), trivial⟩, hS.F ht⟩) hS.2.2 dX3_hedge_18
  · skip
    have hr9 : r_1 = 0 := hr9
    subst hr9
    have f_1_0 : 0 ≤ a1.toInt := f_1_0
    have f_1_1 : a1.toInt ≤ 500 := f_1_1
    refine lv_istore_n (lv' := [(2, .int 0), (0, .ref h0), (1, .int a1)]) hx hb dX3_hedge_8 rfl hl (by decide) rfl (fun ls hl => ?_)
    refine lv_iload_n hx hb dX3_hedge_9 rfl (lv_at hl 0 rfl) ?_
    refine lv_if_eq (tgt := 19) hx hb dX3_hedge_10 (by decide) (fun c_6 => ?_) (fun c_6 => absurd (by decide) c_6)
    refine lv_aload_n hx hb dX3_hedge_19 rfl (lv_at hl 1 rfl) ?_
    refine va_get (D := (dC, dI)) (ci := 4) (v := .int 0) (C := RX3) (T := TX3) (N := 13) hx hb hts (fun _ h => List.mem_cons_of_mem _ (List.mem_append_right _ h)) hown hK hP 0 rfl rfl 9 (by decide) (hts (.fieldLink RX3 89 "FrontDoor" "hedgeNow" "I") (by decide +kernel)) (fun _ h9 => h9) rfl dX3_hedge_20 ?_
    refine lv_istore_n (lv' := [(3, .int 0), (2, .int 0), (0, .ref h0), (1, .int a1)]) hx hb dX3_hedge_23 rfl hl (by decide) rfl (fun ls hl => ?_)
    refine lv_aload_n hx hb dX3_hedge_24 rfl (lv_at hl 2 rfl) ?_
    refine lv_iload_n hx hb dX3_hedge_25 rfl (lv_at hl 3 rfl) ?_
    refine va_put (D := (dC, dI)) (ci := 4) (v := .int a1) (ty := .int) (C := RX3) (T := TX3) (N := 13) hx hb hts (fun _ h => List.mem_cons_of_mem _ (List.mem_append_right _ h)) tyX3 tyX3_ok nmX3 hown hK hP hD hS 0 rfl rfl 9 (by decide) (hts (.fieldLink RX3 89 "FrontDoor" "hedgeNow" "I") (by decide +kernel)) (fun _ h9 => h9) rfl (by decide +kernel) rfl rfl (Nat.le_of_ble_eq_true rfl) dX3_hedge_26 (fun H locs hP hD hS => ?_)
    have hP : va_P (dC, dI) vwCl [(h0, .inr (4, [.ref q1, .ref q2, .ref q3, .ref q4, .ref q5, .int tk, .int 0, .int 3, .int 20, .int a1, .int 0, .int 0, .int 0])), (q5, .inl (cI, 7, .inl (fun _ => 0)))] H := hP
    have hD : va_D A [(h0, .inr (4, [.ref q1, .ref q2, .ref q3, .ref q4, .ref q5, .int tk, .int 0, .int 3, .int 20, .int a1, .int 0, .int 0, .int 0])), (q5, .inl (cI, 7, .inl (fun _ => 0)))] := hD
    refine lv_iload_n hx hb dX3_hedge_29 rfl (lv_at hl 0 rfl) ?_
    exact W.iret (v := 0) hx hb hr (fun t ht hW => ⟨⟨0, (), rfl, (by unfold ex_hedge; (repeat' split) <;> first | rfl | omega), trivial⟩, hS.F ht⟩) hS.2.2 dX3_hedge_30

set_option maxHeartbeats 4000000 in
set_option maxRecDepth 100000 in
theorem k_X3_byTurn (l : Launch) (dC : Nat → ClassId) (dI : Nat → Nat → Nat) (h0 : Nat) (q1 : Nat) (q2 : Nat) (q3 : Nat) (q4 : Nat) (q5 : Nat) (z : Nat) (tk : Int32) (t0 : Int32) (sz : Nat) : Met l yX3_byTurn wsX3_byTurn ({ frames := 1, cells := 0, slots := 0, locals := 20 }) (va_Pc [.ref h0, .int t0] (pzPre (dC, dI) vwCl [(h0, .inr (4, [.ref q1, .ref q2, .ref q3, .ref q4, .ref q5, .int tk, .int 0, .int 3, .int 20, .int 0, .int 0, .int 0, .int 0])), (q1, .inr (0, [.int 0, .ref z, .int 0]))] [] sz)) (va_Qq (fun (r : Option Nat) (_ : Unit) => r = none) (fun _ _ => True) (va_A [] sz)) 0 0 (va_A [] sz) := by
  refine Met.ofW (cc := cX3_byTurn) (maxL := 5) (ret := (some (.object "FrontDoor$Server"))) (by decide) rfl ?_
  intro p e s m args below meth c s₁ B hml hv
  obtain ⟨rfl, hsz, hP, hK, hD0⟩ := hv
  have hx := B.exec
  have hb := B.bytes
  have hr := B.returns
  have hts := atoms_spec (ws := wsX3_byTurn) B.pre
  have hown : s.vm.findClass RX3 = some m.cls := findClass_of_methodNamed B.named
  have hlocks := B.notSynchronized
  subst hsz
  have hA : ∀ q : Nat, s.heap.size ≤ q → va_A [] s.heap.size q := fun q h => Or.inr h
  have hD := hD0
  generalize va_A [] s.heap.size = A at hA ⊢
  have hS : va_S A s.heap s.heap [] := va_S.rf
  have hP : va_P (dC, dI) vwCl [(h0, .inr (4, [.ref q1, .ref q2, .ref q3, .ref q4, .ref q5, .int tk, .int 0, .int 3, .int 20, .int 0, .int 0, .int 0, .int 0])), (q1, .inr (0, [.int 0, .ref z, .int 0]))] s.heap := hP
  have hl := lv_entry ([.ref h0, .int t0]) (n := 5) (Nat.le_of_ble_eq_true rfl)
  rw [lg_entry_eq]
  generalize (lg_sl ([.ref h0, .int t0]) ++ List.replicate (5 - (lg_sl ([.ref h0, .int t0])).length) Slot.unset).toArray = ls at hl ⊢
  have hl : lv_has ls 5 [(0, .ref h0), (1, .int t0)] := hl
  refine lv_null hx hb dX3_byTurn_0 ?_
  refine lv_astore_nN (lv' := [(2, .null), (0, .ref h0), (1, .int t0)]) hx hb dX3_byTurn_1 rfl hl (by decide) rfl (fun ls hl => ?_)
  refine lv_iconst (v := 0) hx hb dX3_byTurn_2 (by decide) ?_
  refine lv_istore_n (lv' := [(3, .int 0), (2, .null), (0, .ref h0), (1, .int t0)]) hx hb dX3_byTurn_3 rfl hl (by decide) rfl (fun ls hl => ?_)
  refine lv_iload_n hx hb dX3_byTurn_4 rfl (lv_at hl 0 rfl) ?_
  refine lv_aload_n hx hb dX3_byTurn_5 rfl (lv_at hl 2 rfl) ?_
  refine va_get (D := (dC, dI)) (ci := 4) (v := .ref q1) (C := RX3) (T := TX3) (N := 13) hx hb hts (fun _ h => List.mem_cons_of_mem _ (List.mem_append_left _ (List.mem_append_left _ (List.mem_append_right _ h)))) hown hK hP 0 rfl rfl 0 (by decide) (hts (.fieldLink RX3 10 "FrontDoor" "servers" "Ljava/util/ArrayList;") (by decide +kernel)) (fun _ h9 => h9) rfl dX3_byTurn_6 ?_
  have hPc := hP.sub (ws' := [(q1, .inr (0, [.int 0, .ref z, .int 0]))]) [1] rfl
  have hDc := hD.sub (ws' := [(q1, .inr (0, [.int 0, .ref z, .int 0]))]) [1] (by decide) rfl
  have hKc := hK.sub (tys' := []) [] rfl
  have hFc := pz_f hA hS
  refine va_calli (va_runV (As := []) (rest := [.int 0]) ⟨hx, hb, hml, hown, hts⟩ (k_Jx4a65c_size_8abf5 l dC dI q1 z s.heap.size) (cwV 0 hts gX3_byTurn_Jx4a65c_size_8abf5 rfl rfl rfl (by decide +kernel) ⟨Nat.le_of_ble_eq_true rfl, Nat.le_of_ble_eq_true rfl⟩) ⟨pz_blind, va_recv hKc hPc (ci := 0) (q0 := 0) rfl rfl, fun U hU hW => ⟨rfl, pz_at hPc hKc hDc hU hW⟩⟩ rfl rfl hl.1 rfl (lv_room (Nat.le_of_ble_eq_true rfl)) dX3_byTurn_9 ⟨Nat.le_of_ble_eq_true rfl, Nat.le_of_ble_eq_true rfl⟩) hS (fun q _ h => hFc q h) hFc (fun r_1 u t H locs ht hvm hw hB hz1 hk1 hS => ?_)
  have hP := pz_keep hP hk1
  have hw : r_1 = 0 := hw
  subst hw
  refine lv_icmp_ge (tgt := 73) hx hb dX3_byTurn_12 (by decide) (fun c_2 => ?_) (fun c_2 => absurd (by decide) c_2)
  refine lv_aload_nN hx hb dX3_byTurn_73 rfl (lv_at hl 1 rfl) ?_
  exact W.aret hx hb hr (Or.inl ⟨_, rfl⟩) (Or.inl rfl) (fun t ht hW => ⟨⟨none, (), rfl, rfl, trivial⟩, hS.F ht⟩) hS.2.2 dX3_byTurn_74

set_option maxHeartbeats 4000000 in
set_option maxRecDepth 100000 in
theorem k_X3_chosen (l : Launch) (dC : Nat → ClassId) (dI : Nat → Nat → Nat) (h0 : Nat) (q1 : Nat) (q2 : Nat) (q3 : Nat) (q4 : Nat) (q5 : Nat) (z : Nat) (tk : Int32) (k0 : Int32) (t0 : Int32) (sz : Nat) : Met l yX3_chosen wsX3_chosen ({ frames := 2, cells := 0, slots := 0, locals := 44 }) (va_Pc [.ref h0, .int k0, .int t0] (pzPre (dC, dI) vwCl [(h0, .inr (4, [.ref q1, .ref q2, .ref q3, .ref q4, .ref q5, .int tk, .int 0, .int 3, .int 20, .int 0, .int 0, .int 0, .int 0])), (q1, .inr (0, [.int 0, .ref z, .int 0]))] [] sz)) (va_Qq (fun (r : Option Nat) (_ : Unit) => r = none) (fun _ _ => True) (va_A [] sz)) 0 0 (va_A [] sz) := by
  refine Met.ofW (cc := cX3_chosen) (maxL := 4) (ret := (some (.object "FrontDoor$Server"))) (by decide) rfl ?_
  intro p e s m args below meth c s₁ B hml hv
  obtain ⟨rfl, hsz, hP, hK, hD0⟩ := hv
  have hx := B.exec
  have hb := B.bytes
  have hr := B.returns
  have hts := atoms_spec (ws := wsX3_chosen) B.pre
  have hown : s.vm.findClass RX3 = some m.cls := findClass_of_methodNamed B.named
  have hlocks := B.notSynchronized
  subst hsz
  have hA : ∀ q : Nat, s.heap.size ≤ q → va_A [] s.heap.size q := fun q h => Or.inr h
  have hD := hD0
  generalize va_A [] s.heap.size = A at hA ⊢
  have hS : va_S A s.heap s.heap [] := va_S.rf
  have hP : va_P (dC, dI) vwCl [(h0, .inr (4, [.ref q1, .ref q2, .ref q3, .ref q4, .ref q5, .int tk, .int 0, .int 3, .int 20, .int 0, .int 0, .int 0, .int 0])), (q1, .inr (0, [.int 0, .ref z, .int 0]))] s.heap := hP
  have hl := lv_entry ([.ref h0, .int k0, .int t0]) (n := 4) (Nat.le_of_ble_eq_true rfl)
  rw [lg_entry_eq]
  generalize (lg_sl ([.ref h0, .int k0, .int t0]) ++ List.replicate (4 - (lg_sl ([.ref h0, .int k0, .int t0])).length) Slot.unset).toArray = ls at hl ⊢
  have hl : lv_has ls 4 [(0, .ref h0), (1, .int k0), (2, .int t0)] := hl
  refine lv_aload_n hx hb dX3_chosen_0 rfl (lv_at hl 0 rfl) ?_
  refine va_get (D := (dC, dI)) (ci := 4) (v := .int 0) (C := RX3) (T := TX3) (N := 13) hx hb hts (fun _ h => List.mem_cons_of_mem _ (List.mem_append_left _ (List.mem_append_left _ (List.mem_append_right _ h)))) hown hK hP 0 rfl rfl 6 (by decide) (hts (.fieldLink RX3 29 "FrontDoor" "ruleNow" "I") (by decide +kernel)) (fun _ h9 => h9) rfl dX3_chosen_1 ?_
  refine lv_if_ne (tgt := 13) hx hb dX3_chosen_4 (by decide) (fun c_1 => absurd c_1 (by decide)) (fun c_1 => ?_)
  refine lv_aload_n hx hb dX3_chosen_7 rfl (lv_at hl 0 rfl) ?_
  refine lv_iload_n hx hb dX3_chosen_8 rfl (lv_at hl 2 rfl) ?_
  have hPc := hP.sub (ws' := [(h0, .inr (4, [.ref q1, .ref q2, .ref q3, .ref q4, .ref q5, .int tk, .int 0, .int 3, .int 20, .int 0, .int 0, .int 0, .int 0])), (q1, .inr (0, [.int 0, .ref z, .int 0]))]) [0, 1] rfl
  have hDc := hD.sub (ws' := [(h0, .inr (4, [.ref q1, .ref q2, .ref q3, .ref q4, .ref q5, .int tk, .int 0, .int 3, .int 20, .int 0, .int 0, .int 0, .int 0])), (q1, .inr (0, [.int 0, .ref z, .int 0]))]) [0, 1] (by decide) rfl
  have hKc := hK.sub (tys' := []) [] rfl
  have hFc := pz_f hA hS
  refine va_callq (va_runV (As := [.int t0]) (rest := []) ⟨hx, hb, hml, hown, hts⟩ (k_X3_byTurn l dC dI h0 q1 q2 q3 q4 q5 z tk t0 s.heap.size) (cwV 1 hts gX3_chosen_X3_byTurn rfl rfl rfl (by decide +kernel) ⟨Nat.le_of_ble_eq_true rfl, Nat.le_of_ble_eq_true rfl⟩) ⟨pz_blind, va_recv hKc hPc (ci := 4) (q0 := 0) rfl rfl, fun U hU hW => ⟨rfl, pz_at hPc hKc hDc hU hW⟩⟩ rfl rfl hl.1 rfl (lv_room (Nat.le_of_ble_eq_true rfl)) dX3_chosen_9 ⟨Nat.le_of_ble_eq_true rfl, Nat.le_of_ble_eq_true rfl⟩) hS (fun q _ h => hFc q h) hFc (fun r_2 u t H locs ht hvm hw hB hz1 hk1 hS => ?_)
  have hP := pz_keep hP hk1
  have hw : r_2 = none := hw
  subst hw
  refine W.eq (g2 := F0 m 12 ls [.null]) rfl ?_
  exact W.aret hx hb hr (Or.inl ⟨_, rfl⟩) (Or.inl rfl) (fun t ht hW => ⟨⟨none, (), rfl, rfl, trivial⟩, hS.F ht⟩) hS.2.2 dX3_chosen_12

set_option maxHeartbeats 4000000 in
set_option maxRecDepth 100000 in
theorem k_X3_pick (l : Launch) (dC : Nat → ClassId) (dI : Nat → Nat → Nat) (h0 : Nat) (q1 : Nat) (q2 : Nat) (q3 : Nat) (q4 : Nat) (q5 : Nat) (z : Nat) (cI : ClassId) (tk : Int32) (a1 : Int32) (sz : Nat) : Met l yX3_pick wsX3_pick ({ frames := 3, cells := 0, slots := 0, locals := 67 }) (va_Pc [.ref h0, .int a1] (pzPre (dC, dI) vwCl [(h0, .inr (4, [.ref q1, .ref q2, .ref q3, .ref q4, .ref q5, .int tk, .int 0, .int 3, .int 20, .int 0, .int 0, .int 0, .int 0])), (q1, .inr (0, [.int 0, .ref z, .int 0])), (q5, .inl (cI, 7, .inl (fun _ => 0)))] [(cI, .int)] sz)) (va_Qi (fun (r : Int32) (_ : Unit) => r = ex_pick a1) (fun _ _ => True) (va_A [(h0, .inr (4, [.ref q1, .ref q2, .ref q3, .ref q4, .ref q5, .int tk, .int 0, .int 3, .int 20, .int 0, .int 0, .int 0, .int 0])), (q1, .inr (0, [.int 0, .ref z, .int 0])), (q5, .inl (cI, 7, .inl (fun _ => 0)))] sz)) 0 0 (va_A [(h0, .inr (4, [.ref q1, .ref q2, .ref q3, .ref q4, .ref q5, .int tk, .int 0, .int 3, .int 20, .int 0, .int 0, .int 0, .int 0])), (q1, .inr (0, [.int 0, .ref z, .int 0])), (q5, .inl (cI, 7, .inl (fun _ => 0)))] sz) := by
  refine Met.ofW (cc := cX3_pick) (maxL := 4) (ret := (some .int)) (by decide) rfl ?_
  intro p e s m args below meth c s₁ B hml hv
  obtain ⟨rfl, hsz, hP, hK, hD0⟩ := hv
  have hx := B.exec
  have hb := B.bytes
  have hr := B.returns
  have hts := atoms_spec (ws := wsX3_pick) B.pre
  have hown : s.vm.findClass RX3 = some m.cls := findClass_of_methodNamed B.named
  have hlocks := B.notSynchronized
  subst hsz
  have hD := hD0.self (sz := s.heap.size)
  generalize hAe : va_A [(h0, .inr (4, [.ref q1, .ref q2, .ref q3, .ref q4, .ref q5, .int tk, .int 0, .int 3, .int 20, .int 0, .int 0, .int 0, .int 0])), (q1, .inr (0, [.int 0, .ref z, .int 0])), (q5, .inl (cI, 7, .inl (fun _ => 0)))] s.heap.size = A at hD ⊢
  have hA : ∀ q : Nat, s.heap.size ≤ q → A q := fun q h => by rw [← hAe]; exact Or.inr h
  have hS : va_S A s.heap s.heap [] := va_S.rf
  have hP : va_P (dC, dI) vwCl [(h0, .inr (4, [.ref q1, .ref q2, .ref q3, .ref q4, .ref q5, .int tk, .int 0, .int 3, .int 20, .int 0, .int 0, .int 0, .int 0])), (q1, .inr (0, [.int 0, .ref z, .int 0])), (q5, .inl (cI, 7, .inl (fun _ => 0)))] s.heap := hP
  have hl := lv_entry ([.ref h0, .int a1]) (n := 4) (Nat.le_of_ble_eq_true rfl)
  rw [lg_entry_eq]
  generalize (lg_sl ([.ref h0, .int a1]) ++ List.replicate (4 - (lg_sl ([.ref h0, .int a1])).length) Slot.unset).toArray = ls at hl ⊢
  have hl : lv_has ls 4 [(0, .ref h0), (1, .int a1)] := hl
  refine lv_iload_n hx hb dX3_pick_0 rfl (lv_at hl 1 rfl) ?_
  refine lv_iconst (v := 0) hx hb dX3_pick_1 (by decide) ?_
  refine lv_ldc hx hb hown (hts (.constant RX3 92 (65535)) (by decide +kernel)) dX3_pick_2 ?_
  have hPc := hP.sub (ws' := []) [] rfl
  have hDc := hD.sub (ws' := []) [] (by decide) rfl
  have hKc := hK.sub (tys' := []) [] rfl
  have hFc := pz_f hA hS
  refine va_calli (va_runS (As := [.int a1, .int 0, .int 65535]) (rest := []) ⟨hx, hb, hml, hown, hts⟩ (k_X3_faultOf l dC dI a1 0 65535 s.heap.size) (va_cwS 3 hts gX3_pick_X3_faultOf rfl rfl rfl (by decide +kernel) ⟨Nat.le_of_ble_eq_true rfl, Nat.le_of_ble_eq_true rfl⟩) ⟨pz_blind, fun U hU hW => ⟨rfl, pz_at hPc hKc hDc hU hW⟩⟩ rfl rfl hl.1 rfl (lv_room (Nat.le_of_ble_eq_true rfl)) dX3_pick_4 ⟨Nat.le_of_ble_eq_true rfl, Nat.le_of_ble_eq_true rfl⟩) hS (fun q _ h => hFc q h) hFc (fun r_1 u t H locs ht hvm hw hB hz1 hk1 hS => ?_)
  have hP := pz_keep hP hk1
  rcases hw with ⟨f_1_0, hr9⟩ | ⟨f_1_0, f_1_1, hr9⟩ | ⟨f_1_0, f_1_1, hr9⟩
  · skip
    have hr9 : r_1 = (-4) := hr9
    subst hr9
    have f_1_0 : a1.toInt < 0 := f_1_0
    refine lv_istore_n (lv' := [(2, .int (-4)), (0, .ref h0), (1, .int a1)]) hx hb dX3_pick_7 rfl hl (by decide) rfl (fun ls hl => ?_)
    refine lv_iload_n hx hb dX3_pick_8 rfl (lv_at hl 0 rfl) ?_
    refine lv_if_eq (tgt := 18) hx hb dX3_pick_9 (by decide) (fun c_2 => absurd c_2 (by decide)) (fun c_2 => ?_)
    refine lv_aload_n hx hb dX3_pick_12 rfl (lv_at hl 1 rfl) ?_
    refine lv_iload_n hx hb dX3_pick_13 rfl (lv_at hl 0 rfl) ?_
    have hPc := hP.sub (ws' := [(h0, .inr (4, [.ref q1, .ref q2, .ref q3, .ref q4, .ref q5, .int tk, .int 0, .int 3, .int 20, .int 0, .int 0, .int 0, .int 0])), (q5, .inl (cI, 7, .inl (fun _ => 0)))]) [0, 2] rfl
    have hDc := hD.sub (ws' := [(h0, .inr (4, [.ref q1, .ref q2, .ref q3, .ref q4, .ref q5, .int tk, .int 0, .int 3, .int 20, .int 0, .int 0, .int 0, .int 0])), (q5, .inl (cI, 7, .inl (fun _ => 0)))]) [0, 2] (by decide) rfl
    have hKc := hK.sub (tys' := [(cI, .int)]) [0] rfl
    have hFc := va_free (wc := [(h0, .inr (4, [.ref q1, .ref q2, .ref q3, .ref q4, .ref q5, .int tk, .int 0, .int 3, .int 20, .int 0, .int 0, .int 0, .int 0])), (q5, .inl (cI, 7, .inl (fun _ => 0)))]) hD hS hA [0, 2] rfl
    refine va_calli (va_runV (As := [.int (-4)]) (rest := []) ⟨hx, hb, hml, hown, hts⟩ (k_X3_refuse4 l dC dI h0 q1 q2 q3 q4 q5 cI tk H.size) (cwV 1 hts gX3_pick_X3_refuse rfl rfl rfl (by decide +kernel) ⟨Nat.le_of_ble_eq_true rfl, Nat.le_of_ble_eq_true rfl⟩) ⟨pz_blind, va_recv hKc hPc (ci := 4) (q0 := 0) rfl rfl, fun U hU hW => ⟨rfl, pz_at hPc hKc hDc hU hW⟩⟩ rfl rfl hl.1 rfl (lv_room (Nat.le_of_ble_eq_true rfl)) dX3_pick_14 ⟨Nat.le_of_ble_eq_true rfl, Nat.le_of_ble_eq_true rfl⟩) hS (fun q _ h => hFc q h) hFc (fun r_3 u t H locs ht hvm hw hB hz1 hk1 hS => ?_)
    obtain ⟨hP, hD⟩ := va_join (wr := [(q1, .inr (0, [.int 0, .ref z, .int 0]))]) (w1 := []) hP hD [0, 2] [1] rfl rfl (by decide) (by decide) hk1 hFc pz_nilP pz_nilD
    have hP : va_P (dC, dI) vwCl [(q1, .inr (0, [.int 0, .ref z, .int 0]))] H := hP
    have hD : va_D A [(q1, .inr (0, [.int 0, .ref z, .int 0]))] := hD
    have hw : r_3 = (-4) := hw
    subst hw
    exact W.iret (v := (-4)) hx hb hr (fun t ht hW => ⟨⟨(-4), (), rfl, (by unfold ex_pick; (repeat' split) <;> first | rfl | omega), trivial⟩, hS.F ht⟩) hS.2.2 dX3_pick_17
  · skip
    have hr9 : r_1 = (-6) := hr9
    subst hr9
    have f_1_0 : 0 ≤ a1.toInt := f_1_0
    have f_1_1 : 65535 < a1.toInt := f_1_1
    refine lv_istore_n (lv' := [(2, .int (-6)), (0, .ref h0), (1, .int a1)]) hx hb dX3_pick_7 rfl hl (by decide) rfl (fun ls hl => ?_)
    refine lv_iload_n hx hb dX3_pick_8 rfl (lv_at hl 0 rfl) ?_
    refine lv_if_eq (tgt := 18) hx hb dX3_pick_9 (by decide) (fun c_4 => absurd c_4 (by decide)) (fun c_4 => ?_)
    refine lv_aload_n hx hb dX3_pick_12 rfl (lv_at hl 1 rfl) ?_
    refine lv_iload_n hx hb dX3_pick_13 rfl (lv_at hl 0 rfl) ?_
    have hPc := hP.sub (ws' := [(h0, .inr (4, [.ref q1, .ref q2, .ref q3, .ref q4, .ref q5, .int tk, .int 0, .int 3, .int 20, .int 0, .int 0, .int 0, .int 0])), (q5, .inl (cI, 7, .inl (fun _ => 0)))]) [0, 2] rfl
    have hDc := hD.sub (ws' := [(h0, .inr (4, [.ref q1, .ref q2, .ref q3, .ref q4, .ref q5, .int tk, .int 0, .int 3, .int 20, .int 0, .int 0, .int 0, .int 0])), (q5, .inl (cI, 7, .inl (fun _ => 0)))]) [0, 2] (by decide) rfl
    have hKc := hK.sub (tys' := [(cI, .int)]) [0] rfl
    have hFc := va_free (wc := [(h0, .inr (4, [.ref q1, .ref q2, .ref q3, .ref q4, .ref q5, .int tk, .int 0, .int 3, .int 20, .int 0, .int 0, .int 0, .int 0])), (q5, .inl (cI, 7, .inl (fun _ => 0)))]) hD hS hA [0, 2] rfl
    refine va_calli (va_runV (As := [.int (-6)]) (rest := []) ⟨hx, hb, hml, hown, hts⟩ (k_X3_refuse6 l dC dI h0 q1 q2 q3 q4 q5 cI tk H.size) (cwV 1 hts gX3_pick_X3_refuse rfl rfl rfl (by decide +kernel) ⟨Nat.le_of_ble_eq_true rfl, Nat.le_of_ble_eq_true rfl⟩) ⟨pz_blind, va_recv hKc hPc (ci := 4) (q0 := 0) rfl rfl, fun U hU hW => ⟨rfl, pz_at hPc hKc hDc hU hW⟩⟩ rfl rfl hl.1 rfl (lv_room (Nat.le_of_ble_eq_true rfl)) dX3_pick_14 ⟨Nat.le_of_ble_eq_true rfl, Nat.le_of_ble_eq_true rfl⟩) hS (fun q _ h => hFc q h) hFc (fun r_5 u t H locs ht hvm hw hB hz1 hk1 hS => ?_)
    obtain ⟨hP, hD⟩ := va_join (wr := [(q1, .inr (0, [.int 0, .ref z, .int 0]))]) (w1 := []) hP hD [0, 2] [1] rfl rfl (by decide) (by decide) hk1 hFc pz_nilP pz_nilD
    have hP : va_P (dC, dI) vwCl [(q1, .inr (0, [.int 0, .ref z, .int 0]))] H := hP
    have hD : va_D A [(q1, .inr (0, [.int 0, .ref z, .int 0]))] := hD
    have hw : r_5 = (-6) := hw
    subst hw
    exact W.iret (v := (-6)) hx hb hr (fun t ht hW => ⟨⟨(-6), (), rfl, (by unfold ex_pick; (repeat' split) <;> first | rfl | omega), trivial⟩, hS.F ht⟩) hS.2.2 dX3_pick_17
  · skip
    have hr9 : r_1 = 0 := hr9
    subst hr9
    have f_1_0 : 0 ≤ a1.toInt := f_1_0
    have f_1_1 : a1.toInt ≤ 65535 := f_1_1
    refine lv_istore_n (lv' := [(2, .int 0), (0, .ref h0), (1, .int a1)]) hx hb dX3_pick_7 rfl hl (by decide) rfl (fun ls hl => ?_)
    refine lv_iload_n hx hb dX3_pick_8 rfl (lv_at hl 0 rfl) ?_
    refine lv_if_eq (tgt := 18) hx hb dX3_pick_9 (by decide) (fun c_6 => ?_) (fun c_6 => absurd (by decide) c_6)
    refine lv_aload_n hx hb dX3_pick_18 rfl (lv_at hl 1 rfl) ?_
    refine lv_iload_n hx hb dX3_pick_19 rfl (lv_at hl 2 rfl) ?_
    refine lv_iconst (v := 0) hx hb dX3_pick_20 (by decide) ?_
    have hPc := hP.sub (ws' := [(h0, .inr (4, [.ref q1, .ref q2, .ref q3, .ref q4, .ref q5, .int tk, .int 0, .int 3, .int 20, .int 0, .int 0, .int 0, .int 0])), (q1, .inr (0, [.int 0, .ref z, .int 0]))]) [0, 1] rfl
    have hDc := hD.sub (ws' := [(h0, .inr (4, [.ref q1, .ref q2, .ref q3, .ref q4, .ref q5, .int tk, .int 0, .int 3, .int 20, .int 0, .int 0, .int 0, .int 0])), (q1, .inr (0, [.int 0, .ref z, .int 0]))]) [0, 1] (by decide) rfl
    have hKc := hK.sub (tys' := []) [] rfl
    have hFc := pz_f hA hS
    refine va_callq (va_runV (As := [.int a1, .int 0]) (rest := []) ⟨hx, hb, hml, hown, hts⟩ (k_X3_chosen l dC dI h0 q1 q2 q3 q4 q5 z tk a1 0 H.size) (cwV 2 hts gX3_pick_X3_chosen rfl rfl rfl (by decide +kernel) ⟨Nat.le_of_ble_eq_true rfl, Nat.le_of_ble_eq_true rfl⟩) ⟨pz_blind, va_recv hKc hPc (ci := 4) (q0 := 0) rfl rfl, fun U hU hW => ⟨rfl, pz_at hPc hKc hDc hU hW⟩⟩ rfl rfl hl.1 rfl (lv_room (Nat.le_of_ble_eq_true rfl)) dX3_pick_21 ⟨Nat.le_of_ble_eq_true rfl, Nat.le_of_ble_eq_true rfl⟩) hS (fun q _ h => hFc q h) hFc (fun r_7 u t H locs ht hvm hw hB hz1 hk1 hS => ?_)
    have hP := pz_keep hP hk1
    have hw : r_7 = none := hw
    subst hw
    refine W.eq (g2 := F0 m 24 ls [.null]) rfl ?_
    refine lv_astore_nN (lv' := [(3, .null), (2, .int 0), (0, .ref h0), (1, .int a1)]) hx hb dX3_pick_24 rfl hl (by decide) rfl (fun ls hl => ?_)
    refine lv_aload_nN hx hb dX3_pick_25 rfl (lv_at hl 0 rfl) ?_
    refine lv_ifnonnullN hx hb dX3_pick_26 ?_
    refine lv_bipush (v := (-9)) hx hb dX3_pick_29 (by decide) ?_
    refine lv_goto (tgt := 38) hx hb dX3_pick_31 (by decide) ?_
    exact W.iret (v := (-9)) hx hb hr (fun t ht hW => ⟨⟨(-9), (), rfl, (by unfold ex_pick; (repeat' split) <;> first | rfl | omega), trivial⟩, hS.F ht⟩) hS.2.2 dX3_pick_38
end
section
set_option maxHeartbeats 4000000 in
set_option maxRecDepth 100000 in
theorem k_X3_queue (l : Launch) (dC : Nat → ClassId) (dI : Nat → Nat → Nat) (h0 : Nat) (q1 : Nat) (q2 : Nat) (q3 : Nat) (q4 : Nat) (q5 : Nat) (z : Nat) (tk : Int32) (a1 : Int32) (sz : Nat) : Met l yX3_queue wsX3_queue ({ frames := 1, cells := 0, slots := 0, locals := 20 }) (va_Pc [.ref h0, .int a1] (pzPre (dC, dI) vwCl [(h0, .inr (4, [.ref q1, .ref q2, .ref q3, .ref q4, .ref q5, .int tk, .int 0, .int 3, .int 20, .int 0, .int 0, .int 0, .int 0])), (q4, .inr (0, [.int 0, .ref z, .int 0]))] [] sz)) (va_Qi (fun (r : Int32) (_ : Unit) => r = (-9)) (fun _ _ => True) (va_A [] sz)) 0 0 (va_A [] sz) := by
  refine Met.ofW (cc := cX3_queue) (maxL := 2) (ret := (some .int)) (by decide) rfl ?_
  intro p e s m args below meth c s₁ B hml hv
  obtain ⟨rfl, hsz, hP, hK, hD0⟩ := hv
  have hx := B.exec
  have hb := B.bytes
  have hr := B.returns
  have hts := atoms_spec (ws := wsX3_queue) B.pre
  have hown : s.vm.findClass RX3 = some m.cls := findClass_of_methodNamed B.named
  have hlocks := B.notSynchronized
  subst hsz
  have hA : ∀ q : Nat, s.heap.size ≤ q → va_A [] s.heap.size q := fun q h => Or.inr h
  have hD := hD0
  generalize va_A [] s.heap.size = A at hA ⊢
  have hS : va_S A s.heap s.heap [] := va_S.rf
  have hP : va_P (dC, dI) vwCl [(h0, .inr (4, [.ref q1, .ref q2, .ref q3, .ref q4, .ref q5, .int tk, .int 0, .int 3, .int 20, .int 0, .int 0, .int 0, .int 0])), (q4, .inr (0, [.int 0, .ref z, .int 0]))] s.heap := hP
  have hl := lv_entry ([.ref h0, .int a1]) (n := 2) (Nat.le_of_ble_eq_true rfl)
  rw [lg_entry_eq]
  generalize (lg_sl ([.ref h0, .int a1]) ++ List.replicate (2 - (lg_sl ([.ref h0, .int a1])).length) Slot.unset).toArray = ls at hl ⊢
  have hl : lv_has ls 2 [(0, .ref h0), (1, .int a1)] := hl
  refine lv_iload_n hx hb dX3_queue_0 rfl (lv_at hl 1 rfl) ?_
  refine lv_if_lt (tgt := 15) hx hb dX3_queue_1 (by decide) (fun c_1 => ?_) (fun c_1 => ?_)
  · skip
    have i_1 : a1.toInt < 0 := by have h9 := pz_lt c_1; exact h9
    refine lv_bipush (v := (-9)) hx hb dX3_queue_15 (by decide) ?_
    refine lv_goto (tgt := 34) hx hb dX3_queue_17 (by decide) ?_
    exact W.iret (v := (-9)) hx hb hr (fun t ht hW => ⟨⟨(-9), (), rfl, rfl, trivial⟩, hS.F ht⟩) hS.2.2 dX3_queue_34
  · skip
    have i_1 : 0 ≤ a1.toInt := by have h9 := pz_nlt c_1; exact h9
    refine lv_iload_n hx hb dX3_queue_4 rfl (lv_at hl 1 rfl) ?_
    refine lv_aload_n hx hb dX3_queue_5 rfl (lv_at hl 0 rfl) ?_
    refine va_get (D := (dC, dI)) (ci := 4) (v := .ref q4) (C := RX3) (T := TX3) (N := 13) hx hb hts (fun _ h => List.mem_cons_of_mem _ (List.mem_append_left _ (List.mem_append_left _ (List.mem_append_right _ h)))) hown hK hP 0 rfl rfl 3 (by decide) (hts (.fieldLink RX3 22 "FrontDoor" "line" "Ljava/util/ArrayList;") (by decide +kernel)) (fun _ h9 => h9) rfl dX3_queue_6 ?_
    have hPc := hP.sub (ws' := [(q4, .inr (0, [.int 0, .ref z, .int 0]))]) [1] rfl
    have hDc := hD.sub (ws' := [(q4, .inr (0, [.int 0, .ref z, .int 0]))]) [1] (by decide) rfl
    have hKc := hK.sub (tys' := []) [] rfl
    have hFc := pz_f hA hS
    refine va_calli (va_runV (As := []) (rest := [.int a1]) ⟨hx, hb, hml, hown, hts⟩ (k_Jx4a65c_size_8abf5 l dC dI q4 z s.heap.size) (cwV 0 hts gX3_queue_Jx4a65c_size_8abf5 rfl rfl rfl (by decide +kernel) ⟨Nat.le_of_ble_eq_true rfl, Nat.le_of_ble_eq_true rfl⟩) ⟨pz_blind, va_recv hKc hPc (ci := 0) (q0 := 0) rfl rfl, fun U hU hW => ⟨rfl, pz_at hPc hKc hDc hU hW⟩⟩ rfl rfl hl.1 rfl (lv_room (Nat.le_of_ble_eq_true rfl)) dX3_queue_9 ⟨Nat.le_of_ble_eq_true rfl, Nat.le_of_ble_eq_true rfl⟩) hS (fun q _ h => hFc q h) hFc (fun r_2 u t H locs ht hvm hw hB hz1 hk1 hS => ?_)
    have hP := pz_keep hP hk1
    have hw : r_2 = 0 := hw
    subst hw
    refine lv_icmp_lt (tgt := 20) hx hb dX3_queue_12 (by decide) (fun c_3 => ?_) (fun c_3 => ?_)
    · skip
      have i_3 : a1.toInt < 0 := by have h9 := pz_lt c_3; exact h9
      exfalso
      omega
    · skip
      have i_3 : 0 ≤ a1.toInt := by have h9 := pz_nlt c_3; exact h9
      refine lv_bipush (v := (-9)) hx hb dX3_queue_15 (by decide) ?_
      refine lv_goto (tgt := 34) hx hb dX3_queue_17 (by decide) ?_
      exact W.iret (v := (-9)) hx hb hr (fun t ht hW => ⟨⟨(-9), (), rfl, rfl, trivial⟩, hS.F ht⟩) hS.2.2 dX3_queue_34

set_option maxHeartbeats 4000000 in
set_option maxRecDepth 100000 in
theorem k_X3_callsThatAre (l : Launch) (dC : Nat → ClassId) (dI : Nat → Nat → Nat) (h0 : Nat) (q1 : Nat) (q2 : Nat) (q3 : Nat) (q4 : Nat) (q5 : Nat) (z : Nat) (tk : Int32) (a1 : Int32) (sz : Nat) : Met l yX3_callsThatAre wsX3_callsThatAre ({ frames := 1, cells := 0, slots := 0, locals := 20 }) (va_Pc [.ref h0, .int a1] (pzPre (dC, dI) vwCl [(h0, .inr (4, [.ref q1, .ref q2, .ref q3, .ref q4, .ref q5, .int tk, .int 0, .int 3, .int 20, .int 0, .int 0, .int 0, .int 0])), (q2, .inr (0, [.int 0, .ref z, .int 0]))] [] sz)) (va_Qi (fun (r : Int32) (_ : Unit) => r = 0) (fun _ _ => True) (va_A [] sz)) 0 0 (va_A [] sz) := by
  refine Met.ofW (cc := cX3_callsThatAre) (maxL := 4) (ret := (some .int)) (by decide) rfl ?_
  intro p e s m args below meth c s₁ B hml hv
  obtain ⟨rfl, hsz, hP, hK, hD0⟩ := hv
  have hx := B.exec
  have hb := B.bytes
  have hr := B.returns
  have hts := atoms_spec (ws := wsX3_callsThatAre) B.pre
  have hown : s.vm.findClass RX3 = some m.cls := findClass_of_methodNamed B.named
  have hlocks := B.notSynchronized
  subst hsz
  have hA : ∀ q : Nat, s.heap.size ≤ q → va_A [] s.heap.size q := fun q h => Or.inr h
  have hD := hD0
  generalize va_A [] s.heap.size = A at hA ⊢
  have hS : va_S A s.heap s.heap [] := va_S.rf
  have hP : va_P (dC, dI) vwCl [(h0, .inr (4, [.ref q1, .ref q2, .ref q3, .ref q4, .ref q5, .int tk, .int 0, .int 3, .int 20, .int 0, .int 0, .int 0, .int 0])), (q2, .inr (0, [.int 0, .ref z, .int 0]))] s.heap := hP
  have hl := lv_entry ([.ref h0, .int a1]) (n := 4) (Nat.le_of_ble_eq_true rfl)
  rw [lg_entry_eq]
  generalize (lg_sl ([.ref h0, .int a1]) ++ List.replicate (4 - (lg_sl ([.ref h0, .int a1])).length) Slot.unset).toArray = ls at hl ⊢
  have hl : lv_has ls 4 [(0, .ref h0), (1, .int a1)] := hl
  refine lv_iconst (v := 0) hx hb dX3_callsThatAre_0 (by decide) ?_
  refine lv_istore_n (lv' := [(2, .int 0), (0, .ref h0), (1, .int a1)]) hx hb dX3_callsThatAre_1 rfl hl (by decide) rfl (fun ls hl => ?_)
  refine lv_iconst (v := 0) hx hb dX3_callsThatAre_2 (by decide) ?_
  refine lv_istore_n (lv' := [(3, .int 0), (2, .int 0), (0, .ref h0), (1, .int a1)]) hx hb dX3_callsThatAre_3 rfl hl (by decide) rfl (fun ls hl => ?_)
  refine lv_iload_n hx hb dX3_callsThatAre_4 rfl (lv_at hl 0 rfl) ?_
  refine lv_aload_n hx hb dX3_callsThatAre_5 rfl (lv_at hl 2 rfl) ?_
  refine va_get (D := (dC, dI)) (ci := 4) (v := .ref q2) (C := RX3) (T := TX3) (N := 13) hx hb hts (fun _ h => List.mem_cons_of_mem _ (List.mem_append_left _ (List.mem_append_left _ (List.mem_append_right _ h)))) hown hK hP 0 rfl rfl 1 (by decide) (hts (.fieldLink RX3 16 "FrontDoor" "calls" "Ljava/util/ArrayList;") (by decide +kernel)) (fun _ h9 => h9) rfl dX3_callsThatAre_6 ?_
  have hPc := hP.sub (ws' := [(q2, .inr (0, [.int 0, .ref z, .int 0]))]) [1] rfl
  have hDc := hD.sub (ws' := [(q2, .inr (0, [.int 0, .ref z, .int 0]))]) [1] (by decide) rfl
  have hKc := hK.sub (tys' := []) [] rfl
  have hFc := pz_f hA hS
  refine va_calli (va_runV (As := []) (rest := [.int 0]) ⟨hx, hb, hml, hown, hts⟩ (k_Jx4a65c_size_8abf5 l dC dI q2 z s.heap.size) (cwV 0 hts gX3_callsThatAre_Jx4a65c_size_8abf5 rfl rfl rfl (by decide +kernel) ⟨Nat.le_of_ble_eq_true rfl, Nat.le_of_ble_eq_true rfl⟩) ⟨pz_blind, va_recv hKc hPc (ci := 0) (q0 := 0) rfl rfl, fun U hU hW => ⟨rfl, pz_at hPc hKc hDc hU hW⟩⟩ rfl rfl hl.1 rfl (lv_room (Nat.le_of_ble_eq_true rfl)) dX3_callsThatAre_9 ⟨Nat.le_of_ble_eq_true rfl, Nat.le_of_ble_eq_true rfl⟩) hS (fun q _ h => hFc q h) hFc (fun r_1 u t H locs ht hvm hw hB hz1 hk1 hS => ?_)
  have hP := pz_keep hP hk1
  have hw : r_1 = 0 := hw
  subst hw
  refine lv_icmp_ge (tgt := 42) hx hb dX3_callsThatAre_12 (by decide) (fun c_2 => ?_) (fun c_2 => absurd (by decide) c_2)
  refine lv_iload_n hx hb dX3_callsThatAre_42 rfl (lv_at hl 1 rfl) ?_
  exact W.iret (v := 0) hx hb hr (fun t ht hW => ⟨⟨0, (), rfl, rfl, trivial⟩, hS.F ht⟩) hS.2.2 dX3_callsThatAre_43

set_option maxHeartbeats 4000000 in
set_option maxRecDepth 100000 in
theorem k_X3_askingsSoFar (l : Launch) (dC : Nat → ClassId) (dI : Nat → Nat → Nat) (h0 : Nat) (q1 : Nat) (q2 : Nat) (q3 : Nat) (q4 : Nat) (q5 : Nat) (z : Nat) (tk : Int32) (sz : Nat) : Met l yX3_askingsSoFar wsX3_askingsSoFar ({ frames := 1, cells := 0, slots := 0, locals := 20 }) (va_Pc [.ref h0] (pzPre (dC, dI) vwCl [(h0, .inr (4, [.ref q1, .ref q2, .ref q3, .ref q4, .ref q5, .int tk, .int 0, .int 3, .int 20, .int 0, .int 0, .int 0, .int 0])), (q1, .inr (0, [.int 0, .ref z, .int 0]))] [] sz)) (va_Qi (fun (r : Int32) (_ : Unit) => r = 0) (fun _ _ => True) (va_A [] sz)) 0 0 (va_A [] sz) := by
  refine Met.ofW (cc := cX3_askingsSoFar) (maxL := 3) (ret := (some .int)) (by decide) rfl ?_
  intro p e s m args below meth c s₁ B hml hv
  obtain ⟨rfl, hsz, hP, hK, hD0⟩ := hv
  have hx := B.exec
  have hb := B.bytes
  have hr := B.returns
  have hts := atoms_spec (ws := wsX3_askingsSoFar) B.pre
  have hown : s.vm.findClass RX3 = some m.cls := findClass_of_methodNamed B.named
  have hlocks := B.notSynchronized
  subst hsz
  have hA : ∀ q : Nat, s.heap.size ≤ q → va_A [] s.heap.size q := fun q h => Or.inr h
  have hD := hD0
  generalize va_A [] s.heap.size = A at hA ⊢
  have hS : va_S A s.heap s.heap [] := va_S.rf
  have hP : va_P (dC, dI) vwCl [(h0, .inr (4, [.ref q1, .ref q2, .ref q3, .ref q4, .ref q5, .int tk, .int 0, .int 3, .int 20, .int 0, .int 0, .int 0, .int 0])), (q1, .inr (0, [.int 0, .ref z, .int 0]))] s.heap := hP
  have hl := lv_entry ([.ref h0]) (n := 3) (Nat.le_of_ble_eq_true rfl)
  rw [lg_entry_eq]
  generalize (lg_sl ([.ref h0]) ++ List.replicate (3 - (lg_sl ([.ref h0])).length) Slot.unset).toArray = ls at hl ⊢
  have hl : lv_has ls 3 [(0, .ref h0)] := hl
  refine lv_iconst (v := 0) hx hb dX3_askingsSoFar_0 (by decide) ?_
  refine lv_istore_n (lv' := [(1, .int 0), (0, .ref h0)]) hx hb dX3_askingsSoFar_1 rfl hl (by decide) rfl (fun ls hl => ?_)
  refine lv_iconst (v := 0) hx hb dX3_askingsSoFar_2 (by decide) ?_
  refine lv_istore_n (lv' := [(2, .int 0), (1, .int 0), (0, .ref h0)]) hx hb dX3_askingsSoFar_3 rfl hl (by decide) rfl (fun ls hl => ?_)
  refine lv_iload_n hx hb dX3_askingsSoFar_4 rfl (lv_at hl 0 rfl) ?_
  refine lv_aload_n hx hb dX3_askingsSoFar_5 rfl (lv_at hl 2 rfl) ?_
  refine va_get (D := (dC, dI)) (ci := 4) (v := .ref q1) (C := RX3) (T := TX3) (N := 13) hx hb hts (fun _ h => List.mem_cons_of_mem _ (List.mem_append_left _ (List.mem_append_left _ (List.mem_append_right _ h)))) hown hK hP 0 rfl rfl 0 (by decide) (hts (.fieldLink RX3 10 "FrontDoor" "servers" "Ljava/util/ArrayList;") (by decide +kernel)) (fun _ h9 => h9) rfl dX3_askingsSoFar_6 ?_
  have hPc := hP.sub (ws' := [(q1, .inr (0, [.int 0, .ref z, .int 0]))]) [1] rfl
  have hDc := hD.sub (ws' := [(q1, .inr (0, [.int 0, .ref z, .int 0]))]) [1] (by decide) rfl
  have hKc := hK.sub (tys' := []) [] rfl
  have hFc := pz_f hA hS
  refine va_calli (va_runV (As := []) (rest := [.int 0]) ⟨hx, hb, hml, hown, hts⟩ (k_Jx4a65c_size_8abf5 l dC dI q1 z s.heap.size) (cwV 0 hts gX3_askingsSoFar_Jx4a65c_size_8abf5 rfl rfl rfl (by decide +kernel) ⟨Nat.le_of_ble_eq_true rfl, Nat.le_of_ble_eq_true rfl⟩) ⟨pz_blind, va_recv hKc hPc (ci := 0) (q0 := 0) rfl rfl, fun U hU hW => ⟨rfl, pz_at hPc hKc hDc hU hW⟩⟩ rfl rfl hl.1 rfl (lv_room (Nat.le_of_ble_eq_true rfl)) dX3_askingsSoFar_9 ⟨Nat.le_of_ble_eq_true rfl, Nat.le_of_ble_eq_true rfl⟩) hS (fun q _ h => hFc q h) hFc (fun r_1 u t H locs ht hvm hw hB hz1 hk1 hS => ?_)
  have hP := pz_keep hP hk1
  have hw : r_1 = 0 := hw
  subst hw
  refine lv_icmp_ge (tgt := 38) hx hb dX3_askingsSoFar_12 (by decide) (fun c_2 => ?_) (fun c_2 => absurd (by decide) c_2)
  refine lv_iload_n hx hb dX3_askingsSoFar_38 rfl (lv_at hl 1 rfl) ?_
  exact W.iret (v := 0) hx hb hr (fun t ht hW => ⟨⟨0, (), rfl, rfl, trivial⟩, hS.F ht⟩) hS.2.2 dX3_askingsSoFar_39

set_option maxHeartbeats 4000000 in
set_option maxRecDepth 100000 in
theorem k_X3_openAskings (l : Launch) (dC : Nat → ClassId) (dI : Nat → Nat → Nat) (h0 : Nat) (q1 : Nat) (q2 : Nat) (q3 : Nat) (q4 : Nat) (q5 : Nat) (z : Nat) (tk : Int32) (sz : Nat) : Met l yX3_openAskings wsX3_openAskings ({ frames := 1, cells := 0, slots := 0, locals := 20 }) (va_Pc [.ref h0] (pzPre (dC, dI) vwCl [(h0, .inr (4, [.ref q1, .ref q2, .ref q3, .ref q4, .ref q5, .int tk, .int 0, .int 3, .int 20, .int 0, .int 0, .int 0, .int 0])), (q1, .inr (0, [.int 0, .ref z, .int 0]))] [] sz)) (va_Qi (fun (r : Int32) (_ : Unit) => r = 0) (fun _ _ => True) (va_A [] sz)) 0 0 (va_A [] sz) := by
  refine Met.ofW (cc := cX3_openAskings) (maxL := 3) (ret := (some .int)) (by decide) rfl ?_
  intro p e s m args below meth c s₁ B hml hv
  obtain ⟨rfl, hsz, hP, hK, hD0⟩ := hv
  have hx := B.exec
  have hb := B.bytes
  have hr := B.returns
  have hts := atoms_spec (ws := wsX3_openAskings) B.pre
  have hown : s.vm.findClass RX3 = some m.cls := findClass_of_methodNamed B.named
  have hlocks := B.notSynchronized
  subst hsz
  have hA : ∀ q : Nat, s.heap.size ≤ q → va_A [] s.heap.size q := fun q h => Or.inr h
  have hD := hD0
  generalize va_A [] s.heap.size = A at hA ⊢
  have hS : va_S A s.heap s.heap [] := va_S.rf
  have hP : va_P (dC, dI) vwCl [(h0, .inr (4, [.ref q1, .ref q2, .ref q3, .ref q4, .ref q5, .int tk, .int 0, .int 3, .int 20, .int 0, .int 0, .int 0, .int 0])), (q1, .inr (0, [.int 0, .ref z, .int 0]))] s.heap := hP
  have hl := lv_entry ([.ref h0]) (n := 3) (Nat.le_of_ble_eq_true rfl)
  rw [lg_entry_eq]
  generalize (lg_sl ([.ref h0]) ++ List.replicate (3 - (lg_sl ([.ref h0])).length) Slot.unset).toArray = ls at hl ⊢
  have hl : lv_has ls 3 [(0, .ref h0)] := hl
  refine lv_iconst (v := 0) hx hb dX3_openAskings_0 (by decide) ?_
  refine lv_istore_n (lv' := [(1, .int 0), (0, .ref h0)]) hx hb dX3_openAskings_1 rfl hl (by decide) rfl (fun ls hl => ?_)
  refine lv_iconst (v := 0) hx hb dX3_openAskings_2 (by decide) ?_
  refine lv_istore_n (lv' := [(2, .int 0), (1, .int 0), (0, .ref h0)]) hx hb dX3_openAskings_3 rfl hl (by decide) rfl (fun ls hl => ?_)
  refine lv_iload_n hx hb dX3_openAskings_4 rfl (lv_at hl 0 rfl) ?_
  refine lv_aload_n hx hb dX3_openAskings_5 rfl (lv_at hl 2 rfl) ?_
  refine va_get (D := (dC, dI)) (ci := 4) (v := .ref q1) (C := RX3) (T := TX3) (N := 13) hx hb hts (fun _ h => List.mem_cons_of_mem _ (List.mem_append_left _ (List.mem_append_left _ (List.mem_append_right _ h)))) hown hK hP 0 rfl rfl 0 (by decide) (hts (.fieldLink RX3 10 "FrontDoor" "servers" "Ljava/util/ArrayList;") (by decide +kernel)) (fun _ h9 => h9) rfl dX3_openAskings_6 ?_
  have hPc := hP.sub (ws' := [(q1, .inr (0, [.int 0, .ref z, .int 0]))]) [1] rfl
  have hDc := hD.sub (ws' := [(q1, .inr (0, [.int 0, .ref z, .int 0]))]) [1] (by decide) rfl
  have hKc := hK.sub (tys' := []) [] rfl
  have hFc := pz_f hA hS
  refine va_calli (va_runV (As := []) (rest := [.int 0]) ⟨hx, hb, hml, hown, hts⟩ (k_Jx4a65c_size_8abf5 l dC dI q1 z s.heap.size) (cwV 0 hts gX3_openAskings_Jx4a65c_size_8abf5 rfl rfl rfl (by decide +kernel) ⟨Nat.le_of_ble_eq_true rfl, Nat.le_of_ble_eq_true rfl⟩) ⟨pz_blind, va_recv hKc hPc (ci := 0) (q0 := 0) rfl rfl, fun U hU hW => ⟨rfl, pz_at hPc hKc hDc hU hW⟩⟩ rfl rfl hl.1 rfl (lv_room (Nat.le_of_ble_eq_true rfl)) dX3_openAskings_9 ⟨Nat.le_of_ble_eq_true rfl, Nat.le_of_ble_eq_true rfl⟩) hS (fun q _ h => hFc q h) hFc (fun r_1 u t H locs ht hvm hw hB hz1 hk1 hS => ?_)
  have hP := pz_keep hP hk1
  have hw : r_1 = 0 := hw
  subst hw
  refine lv_icmp_ge (tgt := 38) hx hb dX3_openAskings_12 (by decide) (fun c_2 => ?_) (fun c_2 => absurd (by decide) c_2)
  refine lv_iload_n hx hb dX3_openAskings_38 rfl (lv_at hl 1 rfl) ?_
  exact W.iret (v := 0) hx hb hr (fun t ht hW => ⟨⟨0, (), rfl, rfl, trivial⟩, hS.F ht⟩) hS.2.2 dX3_openAskings_39

set_option maxHeartbeats 4000000 in
set_option maxRecDepth 100000 in
theorem k_X3_askByRule (l : Launch) (dC : Nat → ClassId) (dI : Nat → Nat → Nat) (h0 : Nat) (q1 : Nat) (q2 : Nat) (q3 : Nat) (q4 : Nat) (q5 : Nat) (z : Nat) (tk : Int32) (c0 : Nat) (n : Int32) (ky : Int32) (gr : Int32) (cm : Int32) (du : Int32) (sf : Int32) (sz : Nat) : Met l yX3_askByRule wsX3_askByRule ({ frames := 3, cells := 0, slots := 0, locals := 67 }) (va_Pc [.ref h0, .ref c0] (pzPre (dC, dI) vwCl [(h0, .inr (4, [.ref q1, .ref q2, .ref q3, .ref q4, .ref q5, .int tk, .int 0, .int 3, .int 20, .int 0, .int 0, .int 0, .int 0])), (q1, .inr (0, [.int 0, .ref z, .int 0])), (c0, .inr (2, [.int n, .int ky, .int gr, .int cm, .int du, .int sf, .int 0, .int 0, .int (-9), .int (-9), .null, .null]))] [] sz)) (va_Qi (fun (r : Int32) (_ : Unit) => r = 0) (fun _ _ => True) (va_A [] sz)) 0 0 (va_A [] sz) := by
  refine Met.ofW (cc := cX3_askByRule) (maxL := 3) (ret := (some .boolean)) (by decide) rfl ?_
  intro p e s m args below meth c s₁ B hml hv
  obtain ⟨rfl, hsz, hP, hK, hD0⟩ := hv
  have hx := B.exec
  have hb := B.bytes
  have hr := B.returns
  have hts := atoms_spec (ws := wsX3_askByRule) B.pre
  have hown : s.vm.findClass RX3 = some m.cls := findClass_of_methodNamed B.named
  have hlocks := B.notSynchronized
  subst hsz
  have hA : ∀ q : Nat, s.heap.size ≤ q → va_A [] s.heap.size q := fun q h => Or.inr h
  have hD := hD0
  generalize va_A [] s.heap.size = A at hA ⊢
  have hS : va_S A s.heap s.heap [] := va_S.rf
  have hP : va_P (dC, dI) vwCl [(h0, .inr (4, [.ref q1, .ref q2, .ref q3, .ref q4, .ref q5, .int tk, .int 0, .int 3, .int 20, .int 0, .int 0, .int 0, .int 0])), (q1, .inr (0, [.int 0, .ref z, .int 0])), (c0, .inr (2, [.int n, .int ky, .int gr, .int cm, .int du, .int sf, .int 0, .int 0, .int (-9), .int (-9), .null, .null]))] s.heap := hP
  have hl := lv_entry ([.ref h0, .ref c0]) (n := 3) (Nat.le_of_ble_eq_true rfl)
  rw [lg_entry_eq]
  generalize (lg_sl ([.ref h0, .ref c0]) ++ List.replicate (3 - (lg_sl ([.ref h0, .ref c0])).length) Slot.unset).toArray = ls at hl ⊢
  have hl : lv_has ls 3 [(0, .ref h0), (1, .ref c0)] := hl
  refine lv_aload_n hx hb dX3_askByRule_0 rfl (lv_at hl 0 rfl) ?_
  refine lv_aload_n hx hb dX3_askByRule_1 rfl (lv_at hl 1 rfl) ?_
  refine va_get (D := (dC, dI)) (ci := 2) (v := .int ky) (C := RX1) (T := TX1) (N := 12) hx hb hts (fun _ h => List.mem_cons_of_mem _ (List.mem_append_left _ (List.mem_append_left _ (List.mem_append_left _ (List.mem_append_left _ (List.mem_append_right _ h)))))) hown hK hP 2 rfl rfl 1 (by decide) (hts (.fieldLink RX3 199 "FrontDoor$Call" "key" "I") (by decide +kernel)) (fun _ h9 => h9) rfl dX3_askByRule_2 ?_
  refine lv_aload_n hx hb dX3_askByRule_5 rfl (lv_at hl 1 rfl) ?_
  refine va_get (D := (dC, dI)) (ci := 2) (v := .int 0) (C := RX1) (T := TX1) (N := 12) hx hb hts (fun _ h => List.mem_cons_of_mem _ (List.mem_append_left _ (List.mem_append_left _ (List.mem_append_left _ (List.mem_append_left _ (List.mem_append_right _ h)))))) hown hK hP 2 rfl rfl 7 (by decide) (hts (.fieldLink RX3 202 "FrontDoor$Call" "tried" "I") (by decide +kernel)) (fun _ h9 => h9) rfl dX3_askByRule_6 ?_
  have hPc := hP.sub (ws' := [(h0, .inr (4, [.ref q1, .ref q2, .ref q3, .ref q4, .ref q5, .int tk, .int 0, .int 3, .int 20, .int 0, .int 0, .int 0, .int 0])), (q1, .inr (0, [.int 0, .ref z, .int 0]))]) [0, 1] rfl
  have hDc := hD.sub (ws' := [(h0, .inr (4, [.ref q1, .ref q2, .ref q3, .ref q4, .ref q5, .int tk, .int 0, .int 3, .int 20, .int 0, .int 0, .int 0, .int 0])), (q1, .inr (0, [.int 0, .ref z, .int 0]))]) [0, 1] (by decide) rfl
  have hKc := hK.sub (tys' := []) [] rfl
  have hFc := pz_f hA hS
  refine va_callq (va_runV (As := [.int ky, .int 0]) (rest := []) ⟨hx, hb, hml, hown, hts⟩ (k_X3_chosen l dC dI h0 q1 q2 q3 q4 q5 z tk ky 0 s.heap.size) (cwV 2 hts gX3_askByRule_X3_chosen rfl rfl rfl (by decide +kernel) ⟨Nat.le_of_ble_eq_true rfl, Nat.le_of_ble_eq_true rfl⟩) ⟨pz_blind, va_recv hKc hPc (ci := 4) (q0 := 0) rfl rfl, fun U hU hW => ⟨rfl, pz_at hPc hKc hDc hU hW⟩⟩ rfl rfl hl.1 rfl (lv_room (Nat.le_of_ble_eq_true rfl)) dX3_askByRule_9 ⟨Nat.le_of_ble_eq_true rfl, Nat.le_of_ble_eq_true rfl⟩) hS (fun q _ h => hFc q h) hFc (fun r_1 u t H locs ht hvm hw hB hz1 hk1 hS => ?_)
  have hP := pz_keep hP hk1
  have hw : r_1 = none := hw
  subst hw
  refine W.eq (g2 := F0 m 12 ls [.null]) rfl ?_
  refine lv_astore_nN (lv' := [(2, .null), (0, .ref h0), (1, .ref c0)]) hx hb dX3_askByRule_12 rfl hl (by decide) rfl (fun ls hl => ?_)
  refine lv_aload_nN hx hb dX3_askByRule_13 rfl (lv_at hl 0 rfl) ?_
  refine lv_ifnonnullN hx hb dX3_askByRule_14 ?_
  refine lv_iconst (v := 0) hx hb dX3_askByRule_17 (by decide) ?_
  exact W.zret (v := 0) hx hb hr rfl (fun t ht hW => ⟨⟨0, (), rfl, rfl, trivial⟩, hS.F ht⟩) hS.2.2 dX3_askByRule_18

set_option maxHeartbeats 4000000 in
set_option maxRecDepth 100000 in
theorem k_X3_joinLine (l : Launch) (dC : Nat → ClassId) (dI : Nat → Nat → Nat) (h0 : Nat) (q1 : Nat) (q2 : Nat) (q3 : Nat) (q4 : Nat) (q5 : Nat) (z : Nat) (tk : Int32) (c0 : Nat) (n : Int32) (ky : Int32) (gr : Int32) (cm : Int32) (du : Int32) (sf : Int32) (sz : Nat) : Met l yX3_joinLine wsX3_joinLine ({ frames := 4, cells := 1, slots := 10, locals := 84 }) (va_Pc [.ref h0, .ref c0] (pzPreZ (dC, dI) vwCl [(h0, .inr (4, [.ref q1, .ref q2, .ref q3, .ref q4, .ref q5, .int tk, .int 0, .int 3, .int 20, .int 0, .int 0, .int 0, .int 0])), (q4, .inr (0, [.int 0, .ref z, .int 0])), (c0, .inr (2, [.int n, .int ky, .int gr, .int cm, .int du, .int sf, .int 0, .int 0, .int (-9), .int (-9), .null, .null]))] [] sz z)) (va_Qv (fun _ : Unit => True) (fun (_ : Unit) (t : State) => va_P (dC, dI) vwCl [(c0, .inr (2, [.int n, .int ky, .int gr, .int cm, .int du, .int sf, .int 0, .int 0, .int (-9), .int (-9), .null, .null]))] t.heap ∧ va_K (dC, dI) vwCl [] t ∧ va_D (va_A [(h0, .inr (4, [.ref q1, .ref q2, .ref q3, .ref q4, .ref q5, .int tk, .int 0, .int 3, .int 20, .int 0, .int 0, .int 0, .int 0])), (q4, .inr (0, [.int 0, .ref z, .int 0])), (c0, .inr (2, [.int n, .int ky, .int gr, .int cm, .int du, .int sf, .int 0, .int 0, .int (-9), .int (-9), .null, .null]))] sz) [(c0, .inr (2, [.int n, .int ky, .int gr, .int cm, .int du, .int sf, .int 0, .int 0, .int (-9), .int (-9), .null, .null]))]) (va_A [(h0, .inr (4, [.ref q1, .ref q2, .ref q3, .ref q4, .ref q5, .int tk, .int 0, .int 3, .int 20, .int 0, .int 0, .int 0, .int 0])), (q4, .inr (0, [.int 0, .ref z, .int 0])), (c0, .inr (2, [.int n, .int ky, .int gr, .int cm, .int du, .int sf, .int 0, .int 0, .int (-9), .int (-9), .null, .null]))] sz)) 1 10 (va_A [(h0, .inr (4, [.ref q1, .ref q2, .ref q3, .ref q4, .ref q5, .int tk, .int 0, .int 3, .int 20, .int 0, .int 0, .int 0, .int 0])), (q4, .inr (0, [.int 0, .ref z, .int 0])), (c0, .inr (2, [.int n, .int ky, .int gr, .int cm, .int du, .int sf, .int 0, .int 0, .int (-9), .int (-9), .null, .null]))] sz) := by
  refine Met.ofW (cc := cX3_joinLine) (maxL := 3) (ret := none) (by decide) rfl ?_
  intro p e s m args below meth c s₁ B hml hv
  obtain ⟨rfl, ⟨hsz, hP, hK, hD0⟩, hZ⟩ := hv
  have hx := B.exec
  have hb := B.bytes
  have hr := B.returns
  have hts := atoms_spec (ws := wsX3_joinLine) B.pre
  have hown : s.vm.findClass RX3 = some m.cls := findClass_of_methodNamed B.named
  have hlocks := B.notSynchronized
  subst hsz
  have hD := hD0.self (sz := s.heap.size)
  generalize hAe : va_A [(h0, .inr (4, [.ref q1, .ref q2, .ref q3, .ref q4, .ref q5, .int tk, .int 0, .int 3, .int 20, .int 0, .int 0, .int 0, .int 0])), (q4, .inr (0, [.int 0, .ref z, .int 0])), (c0, .inr (2, [.int n, .int ky, .int gr, .int cm, .int du, .int sf, .int 0, .int 0, .int (-9), .int (-9), .null, .null]))] s.heap.size = A at hD hZ ⊢
  have hA : ∀ q : Nat, s.heap.size ≤ q → A q := fun q h => by rw [← hAe]; exact Or.inr h
  have hS : va_S A s.heap s.heap [] := va_S.rf
  have hP : va_P (dC, dI) vwCl [(h0, .inr (4, [.ref q1, .ref q2, .ref q3, .ref q4, .ref q5, .int tk, .int 0, .int 3, .int 20, .int 0, .int 0, .int 0, .int 0])), (q4, .inr (0, [.int 0, .ref z, .int 0])), (c0, .inr (2, [.int n, .int ky, .int gr, .int cm, .int du, .int sf, .int 0, .int 0, .int (-9), .int (-9), .null, .null]))] s.heap := hP
  have hl := lv_entry ([.ref h0, .ref c0]) (n := 3) (Nat.le_of_ble_eq_true rfl)
  rw [lg_entry_eq]
  generalize (lg_sl ([.ref h0, .ref c0]) ++ List.replicate (3 - (lg_sl ([.ref h0, .ref c0])).length) Slot.unset).toArray = ls at hl ⊢
  have hl : lv_has ls 3 [(0, .ref h0), (1, .ref c0)] := hl
  refine lv_aload_n hx hb dX3_joinLine_0 rfl (lv_at hl 1 rfl) ?_
  refine lv_iconst (v := 0) hx hb dX3_joinLine_1 (by decide) ?_
  refine va_put (D := (dC, dI)) (ci := 2) (v := .int 0) (ty := .int) (C := RX1) (T := TX1) (N := 12) hx hb hts (fun _ h => List.mem_cons_of_mem _ (List.mem_append_left _ (List.mem_append_left _ (List.mem_append_right _ h)))) tyX1 tyX1_ok nmX1 hown hK hP hD hS 2 rfl rfl 6 (by decide) (hts (.fieldLink RX3 118 "FrontDoor$Call" "state" "I") (by decide +kernel)) (fun _ h9 => h9) rfl (by decide +kernel) rfl rfl (Nat.le_of_ble_eq_true rfl) dX3_joinLine_2 (fun H locs hP hD hS => ?_)
  have hP : va_P (dC, dI) vwCl [(h0, .inr (4, [.ref q1, .ref q2, .ref q3, .ref q4, .ref q5, .int tk, .int 0, .int 3, .int 20, .int 0, .int 0, .int 0, .int 0])), (q4, .inr (0, [.int 0, .ref z, .int 0])), (c0, .inr (2, [.int n, .int ky, .int gr, .int cm, .int du, .int sf, .int 0, .int 0, .int (-9), .int (-9), .null, .null]))] H := hP
  have hD : va_D A [(h0, .inr (4, [.ref q1, .ref q2, .ref q3, .ref q4, .ref q5, .int tk, .int 0, .int 3, .int 20, .int 0, .int 0, .int 0, .int 0])), (q4, .inr (0, [.int 0, .ref z, .int 0])), (c0, .inr (2, [.int n, .int ky, .int gr, .int cm, .int du, .int sf, .int 0, .int 0, .int (-9), .int (-9), .null, .null]))] := hD
  refine lv_iconst (v := 0) hx hb dX3_joinLine_5 (by decide) ?_
  refine lv_istore_n (lv' := [(2, .int 0), (0, .ref h0), (1, .ref c0)]) hx hb dX3_joinLine_6 rfl hl (by decide) rfl (fun ls hl => ?_)
  refine lv_iload_n hx hb dX3_joinLine_7 rfl (lv_at hl 0 rfl) ?_
  refine lv_aload_n hx hb dX3_joinLine_8 rfl (lv_at hl 1 rfl) ?_
  refine va_get (D := (dC, dI)) (ci := 4) (v := .ref q4) (C := RX3) (T := TX3) (N := 13) hx hb hts (fun _ h => List.mem_cons_of_mem _ (List.mem_append_left _ (List.mem_append_right _ h))) hown hK hP 0 rfl rfl 3 (by decide) (hts (.fieldLink RX3 22 "FrontDoor" "line" "Ljava/util/ArrayList;") (by decide +kernel)) (fun _ h9 => h9) rfl dX3_joinLine_9 ?_
  have hPc := hP.sub (ws' := [(q4, .inr (0, [.int 0, .ref z, .int 0]))]) [1] rfl
  have hDc := hD.sub (ws' := [(q4, .inr (0, [.int 0, .ref z, .int 0]))]) [1] (by decide) rfl
  have hKc := hK.sub (tys' := []) [] rfl
  have hFc := pz_f hA hS
  refine va_calli (va_runV (As := []) (rest := [.int 0]) ⟨hx, hb, hml, hown, hts⟩ (k_Jx4a65c_size_8abf5 l dC dI q4 z H.size) (cwV 0 hts gX3_joinLine_Jx4a65c_size_8abf5 rfl rfl rfl (by decide +kernel) ⟨Nat.le_of_ble_eq_true rfl, Nat.le_of_ble_eq_true rfl⟩) ⟨pz_blind, va_recv hKc hPc (ci := 0) (q0 := 0) rfl rfl, fun U hU hW => ⟨rfl, pz_at hPc hKc hDc hU hW⟩⟩ rfl rfl hl.1 rfl (lv_room (Nat.le_of_ble_eq_true rfl)) dX3_joinLine_12 ⟨Nat.le_of_ble_eq_true rfl, Nat.le_of_ble_eq_true rfl⟩) hS (fun q _ h => hFc q h) hFc (fun r_1 u t H locs ht hvm hw hB hz1 hk1 hS => ?_)
  have hP := pz_keep hP hk1
  have hw : r_1 = 0 := hw
  subst hw
  refine lv_icmp_ge (tgt := 42) hx hb dX3_joinLine_15 (by decide) (fun c_2 => ?_) (fun c_2 => absurd (by decide) c_2)
  refine lv_aload_n hx hb dX3_joinLine_42 rfl (lv_at hl 1 rfl) ?_
  refine va_get (D := (dC, dI)) (ci := 4) (v := .ref q4) (C := RX3) (T := TX3) (N := 13) hx hb hts (fun _ h => List.mem_cons_of_mem _ (List.mem_append_left _ (List.mem_append_right _ h))) hown hK hP 0 rfl rfl 3 (by decide) (hts (.fieldLink RX3 22 "FrontDoor" "line" "Ljava/util/ArrayList;") (by decide +kernel)) (fun _ h9 => h9) rfl dX3_joinLine_43 ?_
  refine lv_iload_n hx hb dX3_joinLine_46 rfl (lv_at hl 0 rfl) ?_
  refine lv_aload_n hx hb dX3_joinLine_47 rfl (lv_at hl 2 rfl) ?_
  have hPc := hP.sub (ws' := [(q4, .inr (0, [.int 0, .ref z, .int 0]))]) [1] rfl
  have hDc := hD.sub (ws' := [(q4, .inr (0, [.int 0, .ref z, .int 0]))]) [1] (by decide) rfl
  have hKc := hK.sub (tys' := []) [] rfl
  have hFc := va_free (wc := [(q4, .inr (0, [.int 0, .ref z, .int 0]))]) hD hS hA [1] rfl
  refine va_callv (va_runV (As := [.int 0, .ref c0]) (rest := []) ⟨hx, hb, hml, hown, hts⟩ (k_Jx4a65c_add_7a177 l dC dI q4 z c0 H.size) (cwV 2 hts gX3_joinLine_Jx4a65c_add_7a177 rfl rfl rfl (by decide +kernel) ⟨Nat.le_of_ble_eq_true rfl, Nat.le_of_ble_eq_true rfl⟩) ⟨pz_blindE, va_recv hKc hPc (ci := 0) (q0 := 0) rfl rfl, fun U hU hW => ⟨rfl, ⟨pz_at hPc hKc hDc hU hW, pz_Zat hZ hS hFc hU hW, pz_Enew (pz_rAny hK hP (q0 := 2) (ci := 2) rfl rfl (hZ.2.2.2.2)) (pz_notA hP hD 2 [1] rfl rfl (by decide)) hU hW⟩⟩⟩ rfl rfl hl.1 rfl (lv_room (Nat.le_of_ble_eq_true rfl)) dX3_joinLine_48 ⟨Nat.le_of_ble_eq_true rfl, Nat.le_of_ble_eq_true rfl⟩) hS (fun q _ h => hFc q h) hFc (fun u t H locs ht hvm hw hB hz1 hk1 hS => ?_)
  obtain ⟨hP, hD⟩ := va_join (wr := [(h0, .inr (4, [.ref q1, .ref q2, .ref q3, .ref q4, .ref q5, .int tk, .int 0, .int 3, .int 20, .int 0, .int 0, .int 0, .int 0])), (c0, .inr (2, [.int n, .int ky, .int gr, .int cm, .int du, .int sf, .int 0, .int 0, .int (-9), .int (-9), .null, .null]))]) (w1 := []) hP hD [1] [0, 2] rfl rfl (by decide) (by decide) hk1 hFc pz_nilP pz_nilD
  have hP : va_P (dC, dI) vwCl [(h0, .inr (4, [.ref q1, .ref q2, .ref q3, .ref q4, .ref q5, .int tk, .int 0, .int 3, .int 20, .int 0, .int 0, .int 0, .int 0])), (c0, .inr (2, [.int n, .int ky, .int gr, .int cm, .int du, .int sf, .int 0, .int 0, .int (-9), .int (-9), .null, .null]))] H := hP
  have hD : va_D A [(h0, .inr (4, [.ref q1, .ref q2, .ref q3, .ref q4, .ref q5, .int tk, .int 0, .int 3, .int 20, .int 0, .int 0, .int 0, .int 0])), (c0, .inr (2, [.int n, .int ky, .int gr, .int cm, .int du, .int sf, .int 0, .int 0, .int (-9), .int (-9), .null, .null]))] := hD
  refine W.eq (g2 := F0 m 51 ls []) rfl ?_
  have hP9 := hP.sub (ws' := [(c0, .inr (2, [.int n, .int ky, .int gr, .int cm, .int du, .int sf, .int 0, .int 0, .int (-9), .int (-9), .null, .null]))]) [1] rfl
  have hD9 := hD.sub (ws' := [(c0, .inr (2, [.int n, .int ky, .int gr, .int cm, .int du, .int sf, .int 0, .int 0, .int (-9), .int (-9), .null, .null]))]) [1] (by decide) rfl
  have hK9 := hK.sub (tys' := []) [] rfl
  exact W.vret hx hb hr (fun t ht hW => ⟨⟨(), rfl, trivial, ⟨by rw [ht]; exact hP9, va_K.moved hW.alike hK9, hD9⟩⟩, hS.F ht⟩) hS.2.2 dX3_joinLine_51

set_option maxHeartbeats 4000000 in
set_option maxRecDepth 100000 in
theorem k_X3_takeWhatIsOver (l : Launch) (dC : Nat → ClassId) (dI : Nat → Nat → Nat) (h0 : Nat) (q1 : Nat) (q2 : Nat) (q3 : Nat) (q4 : Nat) (q5 : Nat) (z : Nat) (tk : Int32) (sz : Nat) : Met l yX3_takeWhatIsOver wsX3_takeWhatIsOver ({ frames := 1, cells := 0, slots := 0, locals := 20 }) (va_Pc [.ref h0] (pzPre (dC, dI) vwCl [(h0, .inr (4, [.ref q1, .ref q2, .ref q3, .ref q4, .ref q5, .int tk, .int 0, .int 3, .int 20, .int 0, .int 0, .int 0, .int 0])), (q3, .inr (0, [.int 0, .ref z, .int 0]))] [] sz)) (va_Qv (fun _ : Unit => True) (fun _ _ => True) (va_A [] sz)) 0 0 (va_A [] sz) := by
  refine Met.ofW (cc := cX3_takeWhatIsOver) (maxL := 5) (ret := none) (by decide) rfl ?_
  intro p e s m args below meth c s₁ B hml hv
  obtain ⟨rfl, hsz, hP, hK, hD0⟩ := hv
  have hx := B.exec
  have hb := B.bytes
  have hr := B.returns
  have hts := atoms_spec (ws := wsX3_takeWhatIsOver) B.pre
  have hown : s.vm.findClass RX3 = some m.cls := findClass_of_methodNamed B.named
  have hlocks := B.notSynchronized
  subst hsz
  have hA : ∀ q : Nat, s.heap.size ≤ q → va_A [] s.heap.size q := fun q h => Or.inr h
  have hD := hD0
  generalize va_A [] s.heap.size = A at hA ⊢
  have hS : va_S A s.heap s.heap [] := va_S.rf
  have hP : va_P (dC, dI) vwCl [(h0, .inr (4, [.ref q1, .ref q2, .ref q3, .ref q4, .ref q5, .int tk, .int 0, .int 3, .int 20, .int 0, .int 0, .int 0, .int 0])), (q3, .inr (0, [.int 0, .ref z, .int 0]))] s.heap := hP
  have hl := lv_entry ([.ref h0]) (n := 5) (Nat.le_of_ble_eq_true rfl)
  rw [lg_entry_eq]
  generalize (lg_sl ([.ref h0]) ++ List.replicate (5 - (lg_sl ([.ref h0])).length) Slot.unset).toArray = ls at hl ⊢
  have hl : lv_has ls 5 [(0, .ref h0)] := hl
  refine lv_iconst (v := 0) hx hb dX3_takeWhatIsOver_0 (by decide) ?_
  refine lv_istore_n (lv' := [(1, .int 0), (0, .ref h0)]) hx hb dX3_takeWhatIsOver_1 rfl hl (by decide) rfl (fun ls hl => ?_)
  refine lv_iload_n hx hb dX3_takeWhatIsOver_2 rfl (lv_at hl 0 rfl) ?_
  refine lv_aload_n hx hb dX3_takeWhatIsOver_3 rfl (lv_at hl 1 rfl) ?_
  refine va_get (D := (dC, dI)) (ci := 4) (v := .ref q3) (C := RX3) (T := TX3) (N := 13) hx hb hts (fun _ h => List.mem_cons_of_mem _ (List.mem_append_left _ (List.mem_append_left _ (List.mem_append_left _ (List.mem_append_left _ (List.mem_append_right _ h)))))) hown hK hP 0 rfl rfl 2 (by decide) (hts (.fieldLink RX3 19 "FrontDoor" "live" "Ljava/util/ArrayList;") (by decide +kernel)) (fun _ h9 => h9) rfl dX3_takeWhatIsOver_4 ?_
  have hPc := hP.sub (ws' := [(q3, .inr (0, [.int 0, .ref z, .int 0]))]) [1] rfl
  have hDc := hD.sub (ws' := [(q3, .inr (0, [.int 0, .ref z, .int 0]))]) [1] (by decide) rfl
  have hKc := hK.sub (tys' := []) [] rfl
  have hFc := pz_f hA hS
  refine va_calli (va_runV (As := []) (rest := [.int 0]) ⟨hx, hb, hml, hown, hts⟩ (k_Jx4a65c_size_8abf5 l dC dI q3 z s.heap.size) (cwV 0 hts gX3_takeWhatIsOver_Jx4a65c_size_8abf5 rfl rfl rfl (by decide +kernel) ⟨Nat.le_of_ble_eq_true rfl, Nat.le_of_ble_eq_true rfl⟩) ⟨pz_blind, va_recv hKc hPc (ci := 0) (q0 := 0) rfl rfl, fun U hU hW => ⟨rfl, pz_at hPc hKc hDc hU hW⟩⟩ rfl rfl hl.1 rfl (lv_room (Nat.le_of_ble_eq_true rfl)) dX3_takeWhatIsOver_7 ⟨Nat.le_of_ble_eq_true rfl, Nat.le_of_ble_eq_true rfl⟩) hS (fun q _ h => hFc q h) hFc (fun r_1 u t H locs ht hvm hw hB hz1 hk1 hS => ?_)
  have hP := pz_keep hP hk1
  have hw : r_1 = 0 := hw
  subst hw
  refine lv_icmp_ge (tgt := 95) hx hb dX3_takeWhatIsOver_10 (by decide) (fun c_2 => ?_) (fun c_2 => absurd (by decide) c_2)
  exact W.vret hx hb hr (fun t ht hW => ⟨⟨(), rfl, trivial, trivial⟩, hS.F ht⟩) hS.2.2 dX3_takeWhatIsOver_95

set_option maxHeartbeats 4000000 in
set_option maxRecDepth 100000 in
theorem k_X3_meetDues (l : Launch) (dC : Nat → ClassId) (dI : Nat → Nat → Nat) (h0 : Nat) (q1 : Nat) (q2 : Nat) (q3 : Nat) (q4 : Nat) (q5 : Nat) (z : Nat) (tk : Int32) (sz : Nat) : Met l yX3_meetDues wsX3_meetDues ({ frames := 1, cells := 0, slots := 0, locals := 20 }) (va_Pc [.ref h0] (pzPre (dC, dI) vwCl [(h0, .inr (4, [.ref q1, .ref q2, .ref q3, .ref q4, .ref q5, .int tk, .int 0, .int 3, .int 20, .int 0, .int 0, .int 0, .int 0])), (q3, .inr (0, [.int 0, .ref z, .int 0]))] [] sz)) (va_Qv (fun _ : Unit => True) (fun _ _ => True) (va_A [] sz)) 0 0 (va_A [] sz) := by
  refine Met.ofW (cc := cX3_meetDues) (maxL := 3) (ret := none) (by decide) rfl ?_
  intro p e s m args below meth c s₁ B hml hv
  obtain ⟨rfl, hsz, hP, hK, hD0⟩ := hv
  have hx := B.exec
  have hb := B.bytes
  have hr := B.returns
  have hts := atoms_spec (ws := wsX3_meetDues) B.pre
  have hown : s.vm.findClass RX3 = some m.cls := findClass_of_methodNamed B.named
  have hlocks := B.notSynchronized
  subst hsz
  have hA : ∀ q : Nat, s.heap.size ≤ q → va_A [] s.heap.size q := fun q h => Or.inr h
  have hD := hD0
  generalize va_A [] s.heap.size = A at hA ⊢
  have hS : va_S A s.heap s.heap [] := va_S.rf
  have hP : va_P (dC, dI) vwCl [(h0, .inr (4, [.ref q1, .ref q2, .ref q3, .ref q4, .ref q5, .int tk, .int 0, .int 3, .int 20, .int 0, .int 0, .int 0, .int 0])), (q3, .inr (0, [.int 0, .ref z, .int 0]))] s.heap := hP
  have hl := lv_entry ([.ref h0]) (n := 3) (Nat.le_of_ble_eq_true rfl)
  rw [lg_entry_eq]
  generalize (lg_sl ([.ref h0]) ++ List.replicate (3 - (lg_sl ([.ref h0])).length) Slot.unset).toArray = ls at hl ⊢
  have hl : lv_has ls 3 [(0, .ref h0)] := hl
  refine lv_iconst (v := 0) hx hb dX3_meetDues_0 (by decide) ?_
  refine lv_istore_n (lv' := [(1, .int 0), (0, .ref h0)]) hx hb dX3_meetDues_1 rfl hl (by decide) rfl (fun ls hl => ?_)
  refine lv_iload_n hx hb dX3_meetDues_2 rfl (lv_at hl 0 rfl) ?_
  refine lv_aload_n hx hb dX3_meetDues_3 rfl (lv_at hl 1 rfl) ?_
  refine va_get (D := (dC, dI)) (ci := 4) (v := .ref q3) (C := RX3) (T := TX3) (N := 13) hx hb hts (fun _ h => List.mem_cons_of_mem _ (List.mem_append_left _ (List.mem_append_left _ (List.mem_append_left _ (List.mem_append_left _ (List.mem_append_right _ h)))))) hown hK hP 0 rfl rfl 2 (by decide) (hts (.fieldLink RX3 19 "FrontDoor" "live" "Ljava/util/ArrayList;") (by decide +kernel)) (fun _ h9 => h9) rfl dX3_meetDues_4 ?_
  have hPc := hP.sub (ws' := [(q3, .inr (0, [.int 0, .ref z, .int 0]))]) [1] rfl
  have hDc := hD.sub (ws' := [(q3, .inr (0, [.int 0, .ref z, .int 0]))]) [1] (by decide) rfl
  have hKc := hK.sub (tys' := []) [] rfl
  have hFc := pz_f hA hS
  refine va_calli (va_runV (As := []) (rest := [.int 0]) ⟨hx, hb, hml, hown, hts⟩ (k_Jx4a65c_size_8abf5 l dC dI q3 z s.heap.size) (cwV 0 hts gX3_meetDues_Jx4a65c_size_8abf5 rfl rfl rfl (by decide +kernel) ⟨Nat.le_of_ble_eq_true rfl, Nat.le_of_ble_eq_true rfl⟩) ⟨pz_blind, va_recv hKc hPc (ci := 0) (q0 := 0) rfl rfl, fun U hU hW => ⟨rfl, pz_at hPc hKc hDc hU hW⟩⟩ rfl rfl hl.1 rfl (lv_room (Nat.le_of_ble_eq_true rfl)) dX3_meetDues_7 ⟨Nat.le_of_ble_eq_true rfl, Nat.le_of_ble_eq_true rfl⟩) hS (fun q _ h => hFc q h) hFc (fun r_1 u t H locs ht hvm hw hB hz1 hk1 hS => ?_)
  have hP := pz_keep hP hk1
  have hw : r_1 = 0 := hw
  subst hw
  refine lv_icmp_ge (tgt := 79) hx hb dX3_meetDues_10 (by decide) (fun c_2 => ?_) (fun c_2 => absurd (by decide) c_2)
  exact W.vret hx hb hr (fun t ht hW => ⟨⟨(), rfl, trivial, trivial⟩, hS.F ht⟩) hS.2.2 dX3_meetDues_79

set_option maxHeartbeats 4000000 in
set_option maxRecDepth 100000 in
theorem k_X3_dropEnded (l : Launch) (dC : Nat → ClassId) (dI : Nat → Nat → Nat) (h0 : Nat) (q1 : Nat) (q2 : Nat) (q3 : Nat) (q4 : Nat) (q5 : Nat) (z : Nat) (tk : Int32) (sz : Nat) : Met l yX3_dropEnded wsX3_dropEnded ({ frames := 1, cells := 0, slots := 0, locals := 20 }) (va_Pc [.ref h0] (pzPre (dC, dI) vwCl [(h0, .inr (4, [.ref q1, .ref q2, .ref q3, .ref q4, .ref q5, .int tk, .int 0, .int 3, .int 20, .int 0, .int 0, .int 0, .int 0])), (q3, .inr (0, [.int 0, .ref z, .int 0]))] [] sz)) (va_Qv (fun _ : Unit => True) (fun _ _ => True) (va_A [] sz)) 0 0 (va_A [] sz) := by
  refine Met.ofW (cc := cX3_dropEnded) (maxL := 2) (ret := none) (by decide) rfl ?_
  intro p e s m args below meth c s₁ B hml hv
  obtain ⟨rfl, hsz, hP, hK, hD0⟩ := hv
  have hx := B.exec
  have hb := B.bytes
  have hr := B.returns
  have hts := atoms_spec (ws := wsX3_dropEnded) B.pre
  have hown : s.vm.findClass RX3 = some m.cls := findClass_of_methodNamed B.named
  have hlocks := B.notSynchronized
  subst hsz
  have hA : ∀ q : Nat, s.heap.size ≤ q → va_A [] s.heap.size q := fun q h => Or.inr h
  have hD := hD0
  generalize va_A [] s.heap.size = A at hA ⊢
  have hS : va_S A s.heap s.heap [] := va_S.rf
  have hP : va_P (dC, dI) vwCl [(h0, .inr (4, [.ref q1, .ref q2, .ref q3, .ref q4, .ref q5, .int tk, .int 0, .int 3, .int 20, .int 0, .int 0, .int 0, .int 0])), (q3, .inr (0, [.int 0, .ref z, .int 0]))] s.heap := hP
  have hl := lv_entry ([.ref h0]) (n := 2) (Nat.le_of_ble_eq_true rfl)
  rw [lg_entry_eq]
  generalize (lg_sl ([.ref h0]) ++ List.replicate (2 - (lg_sl ([.ref h0])).length) Slot.unset).toArray = ls at hl ⊢
  have hl : lv_has ls 2 [(0, .ref h0)] := hl
  refine lv_aload_n hx hb dX3_dropEnded_0 rfl (lv_at hl 0 rfl) ?_
  refine va_get (D := (dC, dI)) (ci := 4) (v := .ref q3) (C := RX3) (T := TX3) (N := 13) hx hb hts (fun _ h => List.mem_cons_of_mem _ (List.mem_append_left _ (List.mem_append_left _ (List.mem_append_right _ h)))) hown hK hP 0 rfl rfl 2 (by decide) (hts (.fieldLink RX3 19 "FrontDoor" "live" "Ljava/util/ArrayList;") (by decide +kernel)) (fun _ h9 => h9) rfl dX3_dropEnded_1 ?_
  have hPc := hP.sub (ws' := [(q3, .inr (0, [.int 0, .ref z, .int 0]))]) [1] rfl
  have hDc := hD.sub (ws' := [(q3, .inr (0, [.int 0, .ref z, .int 0]))]) [1] (by decide) rfl
  have hKc := hK.sub (tys' := []) [] rfl
  have hFc := pz_f hA hS
  refine va_calli (va_runV (As := []) (rest := []) ⟨hx, hb, hml, hown, hts⟩ (k_Jx4a65c_size_8abf5 l dC dI q3 z s.heap.size) (cwV 0 hts gX3_dropEnded_Jx4a65c_size_8abf5 rfl rfl rfl (by decide +kernel) ⟨Nat.le_of_ble_eq_true rfl, Nat.le_of_ble_eq_true rfl⟩) ⟨pz_blind, va_recv hKc hPc (ci := 0) (q0 := 0) rfl rfl, fun U hU hW => ⟨rfl, pz_at hPc hKc hDc hU hW⟩⟩ rfl rfl hl.1 rfl (lv_room (Nat.le_of_ble_eq_true rfl)) dX3_dropEnded_4 ⟨Nat.le_of_ble_eq_true rfl, Nat.le_of_ble_eq_true rfl⟩) hS (fun q _ h => hFc q h) hFc (fun r_1 u t H locs ht hvm hw hB hz1 hk1 hS => ?_)
  have hP := pz_keep hP hk1
  have hw : r_1 = 0 := hw
  subst hw
  refine lv_iconst (v := 1) hx hb dX3_dropEnded_7 (by decide) ?_
  refine lv_isub hx hb dX3_dropEnded_8 ?_
  refine lv_topi (fun x_2 ex_2 => ?_)
  obtain rfl : x_2 = (-1) := ex_2.trans (by decide)
  refine lv_istore_n (lv' := [(1, .int (-1)), (0, .ref h0)]) hx hb dX3_dropEnded_9 rfl hl (by decide) rfl (fun ls hl => ?_)
  refine lv_iload_n hx hb dX3_dropEnded_10 rfl (lv_at hl 0 rfl) ?_
  refine lv_if_lt (tgt := 46) hx hb dX3_dropEnded_11 (by decide) (fun c_3 => ?_) (fun c_3 => absurd (by decide) c_3)
  exact W.vret hx hb hr (fun t ht hW => ⟨⟨(), rfl, trivial, trivial⟩, hS.F ht⟩) hS.2.2 dX3_dropEnded_46

set_option maxHeartbeats 4000000 in
set_option maxRecDepth 100000 in
theorem k_X3_tryThoseOut (l : Launch) (dC : Nat → ClassId) (dI : Nat → Nat → Nat) (h0 : Nat) (q1 : Nat) (q2 : Nat) (q3 : Nat) (q4 : Nat) (q5 : Nat) (z : Nat) (tk : Int32) (sz : Nat) : Met l yX3_tryThoseOut wsX3_tryThoseOut ({ frames := 1, cells := 0, slots := 0, locals := 20 }) (va_Pc [.ref h0] (pzPre (dC, dI) vwCl [(h0, .inr (4, [.ref q1, .ref q2, .ref q3, .ref q4, .ref q5, .int tk, .int 0, .int 3, .int 20, .int 0, .int 0, .int 0, .int 0])), (q1, .inr (0, [.int 0, .ref z, .int 0]))] [] sz)) (va_Qv (fun _ : Unit => True) (fun _ _ => True) (va_A [] sz)) 0 0 (va_A [] sz) := by
  refine Met.ofW (cc := cX3_tryThoseOut) (maxL := 3) (ret := none) (by decide) rfl ?_
  intro p e s m args below meth c s₁ B hml hv
  obtain ⟨rfl, hsz, hP, hK, hD0⟩ := hv
  have hx := B.exec
  have hb := B.bytes
  have hr := B.returns
  have hts := atoms_spec (ws := wsX3_tryThoseOut) B.pre
  have hown : s.vm.findClass RX3 = some m.cls := findClass_of_methodNamed B.named
  have hlocks := B.notSynchronized
  subst hsz
  have hA : ∀ q : Nat, s.heap.size ≤ q → va_A [] s.heap.size q := fun q h => Or.inr h
  have hD := hD0
  generalize va_A [] s.heap.size = A at hA ⊢
  have hS : va_S A s.heap s.heap [] := va_S.rf
  have hP : va_P (dC, dI) vwCl [(h0, .inr (4, [.ref q1, .ref q2, .ref q3, .ref q4, .ref q5, .int tk, .int 0, .int 3, .int 20, .int 0, .int 0, .int 0, .int 0])), (q1, .inr (0, [.int 0, .ref z, .int 0]))] s.heap := hP
  have hl := lv_entry ([.ref h0]) (n := 3) (Nat.le_of_ble_eq_true rfl)
  rw [lg_entry_eq]
  generalize (lg_sl ([.ref h0]) ++ List.replicate (3 - (lg_sl ([.ref h0])).length) Slot.unset).toArray = ls at hl ⊢
  have hl : lv_has ls 3 [(0, .ref h0)] := hl
  refine lv_iconst (v := 0) hx hb dX3_tryThoseOut_0 (by decide) ?_
  refine lv_istore_n (lv' := [(1, .int 0), (0, .ref h0)]) hx hb dX3_tryThoseOut_1 rfl hl (by decide) rfl (fun ls hl => ?_)
  refine lv_iload_n hx hb dX3_tryThoseOut_2 rfl (lv_at hl 0 rfl) ?_
  refine lv_aload_n hx hb dX3_tryThoseOut_3 rfl (lv_at hl 1 rfl) ?_
  refine va_get (D := (dC, dI)) (ci := 4) (v := .ref q1) (C := RX3) (T := TX3) (N := 13) hx hb hts (fun _ h => List.mem_cons_of_mem _ (List.mem_append_left _ (List.mem_append_left _ (List.mem_append_right _ h)))) hown hK hP 0 rfl rfl 0 (by decide) (hts (.fieldLink RX3 10 "FrontDoor" "servers" "Ljava/util/ArrayList;") (by decide +kernel)) (fun _ h9 => h9) rfl dX3_tryThoseOut_4 ?_
  have hPc := hP.sub (ws' := [(q1, .inr (0, [.int 0, .ref z, .int 0]))]) [1] rfl
  have hDc := hD.sub (ws' := [(q1, .inr (0, [.int 0, .ref z, .int 0]))]) [1] (by decide) rfl
  have hKc := hK.sub (tys' := []) [] rfl
  have hFc := pz_f hA hS
  refine va_calli (va_runV (As := []) (rest := [.int 0]) ⟨hx, hb, hml, hown, hts⟩ (k_Jx4a65c_size_8abf5 l dC dI q1 z s.heap.size) (cwV 0 hts gX3_tryThoseOut_Jx4a65c_size_8abf5 rfl rfl rfl (by decide +kernel) ⟨Nat.le_of_ble_eq_true rfl, Nat.le_of_ble_eq_true rfl⟩) ⟨pz_blind, va_recv hKc hPc (ci := 0) (q0 := 0) rfl rfl, fun U hU hW => ⟨rfl, pz_at hPc hKc hDc hU hW⟩⟩ rfl rfl hl.1 rfl (lv_room (Nat.le_of_ble_eq_true rfl)) dX3_tryThoseOut_7 ⟨Nat.le_of_ble_eq_true rfl, Nat.le_of_ble_eq_true rfl⟩) hS (fun q _ h => hFc q h) hFc (fun r_1 u t H locs ht hvm hw hB hz1 hk1 hS => ?_)
  have hP := pz_keep hP hk1
  have hw : r_1 = 0 := hw
  subst hw
  refine lv_icmp_ge (tgt := 55) hx hb dX3_tryThoseOut_10 (by decide) (fun c_2 => ?_) (fun c_2 => absurd (by decide) c_2)
  exact W.vret hx hb hr (fun t ht hW => ⟨⟨(), rfl, trivial, trivial⟩, hS.F ht⟩) hS.2.2 dX3_tryThoseOut_55

set_option maxHeartbeats 4000000 in
set_option maxRecDepth 100000 in
theorem k_X3_hedgeSlow (l : Launch) (dC : Nat → ClassId) (dI : Nat → Nat → Nat) (h0 : Nat) (q1 : Nat) (q2 : Nat) (q3 : Nat) (q4 : Nat) (q5 : Nat) (z : Nat) (tk : Int32) (sz : Nat) : Met l yX3_hedgeSlow wsX3_hedgeSlow ({ frames := 0, cells := 0, slots := 0, locals := 0 }) (va_Pc [.ref h0] (pzPre (dC, dI) vwCl [(h0, .inr (4, [.ref q1, .ref q2, .ref q3, .ref q4, .ref q5, .int tk, .int 0, .int 3, .int 20, .int 0, .int 0, .int 0, .int 0])), (q3, .inr (0, [.int 0, .ref z, .int 0]))] [] sz)) (va_Qv (fun _ : Unit => True) (fun _ _ => True) (va_A [] sz)) 0 0 (va_A [] sz) := by
  refine Met.ofW (cc := cX3_hedgeSlow) (maxL := 5) (ret := none) (by decide) rfl ?_
  intro p e s m args below meth c s₁ B hml hv
  obtain ⟨rfl, hsz, hP, hK, hD0⟩ := hv
  have hx := B.exec
  have hb := B.bytes
  have hr := B.returns
  have hts := atoms_spec (ws := wsX3_hedgeSlow) B.pre
  have hown : s.vm.findClass RX3 = some m.cls := findClass_of_methodNamed B.named
  have hlocks := B.notSynchronized
  subst hsz
  have hA : ∀ q : Nat, s.heap.size ≤ q → va_A [] s.heap.size q := fun q h => Or.inr h
  have hD := hD0
  generalize va_A [] s.heap.size = A at hA ⊢
  have hS : va_S A s.heap s.heap [] := va_S.rf
  have hP : va_P (dC, dI) vwCl [(h0, .inr (4, [.ref q1, .ref q2, .ref q3, .ref q4, .ref q5, .int tk, .int 0, .int 3, .int 20, .int 0, .int 0, .int 0, .int 0])), (q3, .inr (0, [.int 0, .ref z, .int 0]))] s.heap := hP
  have hl := lv_entry ([.ref h0]) (n := 5) (Nat.le_of_ble_eq_true rfl)
  rw [lg_entry_eq]
  generalize (lg_sl ([.ref h0]) ++ List.replicate (5 - (lg_sl ([.ref h0])).length) Slot.unset).toArray = ls at hl ⊢
  have hl : lv_has ls 5 [(0, .ref h0)] := hl
  refine lv_aload_n hx hb dX3_hedgeSlow_0 rfl (lv_at hl 0 rfl) ?_
  refine va_get (D := (dC, dI)) (ci := 4) (v := .int 0) (C := RX3) (T := TX3) (N := 13) hx hb hts (fun _ h => List.mem_cons_of_mem _ (List.mem_append_left _ (List.mem_append_left _ (List.mem_append_left _ (List.mem_append_left _ (List.mem_append_right _ h)))))) hown hK hP 0 rfl rfl 9 (by decide) (hts (.fieldLink RX3 89 "FrontDoor" "hedgeNow" "I") (by decide +kernel)) (fun _ h9 => h9) rfl dX3_hedgeSlow_1 ?_
  refine lv_if_ne (tgt := 8) hx hb dX3_hedgeSlow_4 (by decide) (fun c_1 => absurd c_1 (by decide)) (fun c_1 => ?_)
  exact W.vret hx hb hr (fun t ht hW => ⟨⟨(), rfl, trivial, trivial⟩, hS.F ht⟩) hS.2.2 dX3_hedgeSlow_7

set_option maxHeartbeats 4000000 in
set_option maxRecDepth 100000 in
theorem k_X3_askQueued (l : Launch) (dC : Nat → ClassId) (dI : Nat → Nat → Nat) (h0 : Nat) (q1 : Nat) (q2 : Nat) (q3 : Nat) (q4 : Nat) (q5 : Nat) (z : Nat) (tk : Int32) (sz : Nat) : Met l yX3_askQueued wsX3_askQueued ({ frames := 1, cells := 0, slots := 0, locals := 20 }) (va_Pc [.ref h0] (pzPre (dC, dI) vwCl [(h0, .inr (4, [.ref q1, .ref q2, .ref q3, .ref q4, .ref q5, .int tk, .int 0, .int 3, .int 20, .int 0, .int 0, .int 0, .int 0])), (q4, .inr (0, [.int 0, .ref z, .int 0]))] [] sz)) (va_Qv (fun _ : Unit => True) (fun _ _ => True) (va_A [] sz)) 0 0 (va_A [] sz) := by
  refine Met.ofW (cc := cX3_askQueued) (maxL := 4) (ret := none) (by decide) rfl ?_
  intro p e s m args below meth c s₁ B hml hv
  obtain ⟨rfl, hsz, hP, hK, hD0⟩ := hv
  have hx := B.exec
  have hb := B.bytes
  have hr := B.returns
  have hts := atoms_spec (ws := wsX3_askQueued) B.pre
  have hown : s.vm.findClass RX3 = some m.cls := findClass_of_methodNamed B.named
  have hlocks := B.notSynchronized
  subst hsz
  have hA : ∀ q : Nat, s.heap.size ≤ q → va_A [] s.heap.size q := fun q h => Or.inr h
  have hD := hD0
  generalize va_A [] s.heap.size = A at hA ⊢
  have hS : va_S A s.heap s.heap [] := va_S.rf
  have hP : va_P (dC, dI) vwCl [(h0, .inr (4, [.ref q1, .ref q2, .ref q3, .ref q4, .ref q5, .int tk, .int 0, .int 3, .int 20, .int 0, .int 0, .int 0, .int 0])), (q4, .inr (0, [.int 0, .ref z, .int 0]))] s.heap := hP
  have hl := lv_entry ([.ref h0]) (n := 4) (Nat.le_of_ble_eq_true rfl)
  rw [lg_entry_eq]
  generalize (lg_sl ([.ref h0]) ++ List.replicate (4 - (lg_sl ([.ref h0])).length) Slot.unset).toArray = ls at hl ⊢
  have hl : lv_has ls 4 [(0, .ref h0)] := hl
  refine lv_aload_n hx hb dX3_askQueued_0 rfl (lv_at hl 0 rfl) ?_
  refine va_get (D := (dC, dI)) (ci := 4) (v := .ref q4) (C := RX3) (T := TX3) (N := 13) hx hb hts (fun _ h => List.mem_cons_of_mem _ (List.mem_append_left _ (List.mem_append_left _ (List.mem_append_left _ (List.mem_append_left _ (List.mem_append_right _ h)))))) hown hK hP 0 rfl rfl 3 (by decide) (hts (.fieldLink RX3 22 "FrontDoor" "line" "Ljava/util/ArrayList;") (by decide +kernel)) (fun _ h9 => h9) rfl dX3_askQueued_1 ?_
  have hPc := hP.sub (ws' := [(q4, .inr (0, [.int 0, .ref z, .int 0]))]) [1] rfl
  have hDc := hD.sub (ws' := [(q4, .inr (0, [.int 0, .ref z, .int 0]))]) [1] (by decide) rfl
  have hKc := hK.sub (tys' := []) [] rfl
  have hFc := pz_f hA hS
  refine va_calli (va_runV (As := []) (rest := []) ⟨hx, hb, hml, hown, hts⟩ (k_Jx4a65c_size_8abf5 l dC dI q4 z s.heap.size) (cwV 0 hts gX3_askQueued_Jx4a65c_size_8abf5 rfl rfl rfl (by decide +kernel) ⟨Nat.le_of_ble_eq_true rfl, Nat.le_of_ble_eq_true rfl⟩) ⟨pz_blind, va_recv hKc hPc (ci := 0) (q0 := 0) rfl rfl, fun U hU hW => ⟨rfl, pz_at hPc hKc hDc hU hW⟩⟩ rfl rfl hl.1 rfl (lv_room (Nat.le_of_ble_eq_true rfl)) dX3_askQueued_4 ⟨Nat.le_of_ble_eq_true rfl, Nat.le_of_ble_eq_true rfl⟩) hS (fun q _ h => hFc q h) hFc (fun r_1 u t H locs ht hvm hw hB hz1 hk1 hS => ?_)
  have hP := pz_keep hP hk1
  have hw : r_1 = 0 := hw
  subst hw
  refine lv_istore_n (lv' := [(1, .int 0), (0, .ref h0)]) hx hb dX3_askQueued_7 rfl hl (by decide) rfl (fun ls hl => ?_)
  refine lv_iconst (v := 0) hx hb dX3_askQueued_8 (by decide) ?_
  refine lv_istore_n (lv' := [(2, .int 0), (1, .int 0), (0, .ref h0)]) hx hb dX3_askQueued_9 rfl hl (by decide) rfl (fun ls hl => ?_)
  refine lv_iconst (v := 0) hx hb dX3_askQueued_10 (by decide) ?_
  refine lv_istore_n (lv' := [(3, .int 0), (2, .int 0), (1, .int 0), (0, .ref h0)]) hx hb dX3_askQueued_11 rfl hl (by decide) rfl (fun ls hl => ?_)
  refine lv_iload_n hx hb dX3_askQueued_12 rfl (lv_at hl 0 rfl) ?_
  refine lv_iload_n hx hb dX3_askQueued_13 rfl (lv_at hl 2 rfl) ?_
  refine lv_icmp_ge (tgt := 67) hx hb dX3_askQueued_14 (by decide) (fun c_2 => ?_) (fun c_2 => absurd (by decide) c_2)
  exact W.vret hx hb hr (fun t ht hW => ⟨⟨(), rfl, trivial, trivial⟩, hS.F ht⟩) hS.2.2 dX3_askQueued_67

set_option maxHeartbeats 4000000 in
set_option maxRecDepth 100000 in
theorem k_X3_letDrainedGo (l : Launch) (dC : Nat → ClassId) (dI : Nat → Nat → Nat) (h0 : Nat) (q1 : Nat) (q2 : Nat) (q3 : Nat) (q4 : Nat) (q5 : Nat) (z : Nat) (tk : Int32) (sz : Nat) : Met l yX3_letDrainedGo wsX3_letDrainedGo ({ frames := 1, cells := 0, slots := 0, locals := 20 }) (va_Pc [.ref h0] (pzPre (dC, dI) vwCl [(h0, .inr (4, [.ref q1, .ref q2, .ref q3, .ref q4, .ref q5, .int tk, .int 0, .int 3, .int 20, .int 0, .int 0, .int 0, .int 0])), (q1, .inr (0, [.int 0, .ref z, .int 0]))] [] sz)) (va_Qv (fun _ : Unit => True) (fun _ _ => True) (va_A [] sz)) 0 0 (va_A [] sz) := by
  refine Met.ofW (cc := cX3_letDrainedGo) (maxL := 3) (ret := none) (by decide) rfl ?_
  intro p e s m args below meth c s₁ B hml hv
  obtain ⟨rfl, hsz, hP, hK, hD0⟩ := hv
  have hx := B.exec
  have hb := B.bytes
  have hr := B.returns
  have hts := atoms_spec (ws := wsX3_letDrainedGo) B.pre
  have hown : s.vm.findClass RX3 = some m.cls := findClass_of_methodNamed B.named
  have hlocks := B.notSynchronized
  subst hsz
  have hA : ∀ q : Nat, s.heap.size ≤ q → va_A [] s.heap.size q := fun q h => Or.inr h
  have hD := hD0
  generalize va_A [] s.heap.size = A at hA ⊢
  have hS : va_S A s.heap s.heap [] := va_S.rf
  have hP : va_P (dC, dI) vwCl [(h0, .inr (4, [.ref q1, .ref q2, .ref q3, .ref q4, .ref q5, .int tk, .int 0, .int 3, .int 20, .int 0, .int 0, .int 0, .int 0])), (q1, .inr (0, [.int 0, .ref z, .int 0]))] s.heap := hP
  have hl := lv_entry ([.ref h0]) (n := 3) (Nat.le_of_ble_eq_true rfl)
  rw [lg_entry_eq]
  generalize (lg_sl ([.ref h0]) ++ List.replicate (3 - (lg_sl ([.ref h0])).length) Slot.unset).toArray = ls at hl ⊢
  have hl : lv_has ls 3 [(0, .ref h0)] := hl
  refine lv_iconst (v := 0) hx hb dX3_letDrainedGo_0 (by decide) ?_
  refine lv_istore_n (lv' := [(1, .int 0), (0, .ref h0)]) hx hb dX3_letDrainedGo_1 rfl hl (by decide) rfl (fun ls hl => ?_)
  refine lv_iload_n hx hb dX3_letDrainedGo_2 rfl (lv_at hl 0 rfl) ?_
  refine lv_aload_n hx hb dX3_letDrainedGo_3 rfl (lv_at hl 1 rfl) ?_
  refine va_get (D := (dC, dI)) (ci := 4) (v := .ref q1) (C := RX3) (T := TX3) (N := 13) hx hb hts (fun _ h => List.mem_cons_of_mem _ (List.mem_append_left _ (List.mem_append_left _ (List.mem_append_right _ h)))) hown hK hP 0 rfl rfl 0 (by decide) (hts (.fieldLink RX3 10 "FrontDoor" "servers" "Ljava/util/ArrayList;") (by decide +kernel)) (fun _ h9 => h9) rfl dX3_letDrainedGo_4 ?_
  have hPc := hP.sub (ws' := [(q1, .inr (0, [.int 0, .ref z, .int 0]))]) [1] rfl
  have hDc := hD.sub (ws' := [(q1, .inr (0, [.int 0, .ref z, .int 0]))]) [1] (by decide) rfl
  have hKc := hK.sub (tys' := []) [] rfl
  have hFc := pz_f hA hS
  refine va_calli (va_runV (As := []) (rest := [.int 0]) ⟨hx, hb, hml, hown, hts⟩ (k_Jx4a65c_size_8abf5 l dC dI q1 z s.heap.size) (cwV 0 hts gX3_letDrainedGo_Jx4a65c_size_8abf5 rfl rfl rfl (by decide +kernel) ⟨Nat.le_of_ble_eq_true rfl, Nat.le_of_ble_eq_true rfl⟩) ⟨pz_blind, va_recv hKc hPc (ci := 0) (q0 := 0) rfl rfl, fun U hU hW => ⟨rfl, pz_at hPc hKc hDc hU hW⟩⟩ rfl rfl hl.1 rfl (lv_room (Nat.le_of_ble_eq_true rfl)) dX3_letDrainedGo_7 ⟨Nat.le_of_ble_eq_true rfl, Nat.le_of_ble_eq_true rfl⟩) hS (fun q _ h => hFc q h) hFc (fun r_1 u t H locs ht hvm hw hB hz1 hk1 hS => ?_)
  have hP := pz_keep hP hk1
  have hw : r_1 = 0 := hw
  subst hw
  refine lv_icmp_ge (tgt := 51) hx hb dX3_letDrainedGo_10 (by decide) (fun c_2 => ?_) (fun c_2 => absurd (by decide) c_2)
  exact W.vret hx hb hr (fun t ht hW => ⟨⟨(), rfl, trivial, trivial⟩, hS.F ht⟩) hS.2.2 dX3_letDrainedGo_51

set_option maxHeartbeats 4000000 in
set_option maxRecDepth 100000 in
theorem k_X3_passTick (l : Launch) (dC : Nat → ClassId) (dI : Nat → Nat → Nat) (h0 : Nat) (q1 : Nat) (q2 : Nat) (q3 : Nat) (q4 : Nat) (q5 : Nat) (z : Nat) (tk : Int32) (sz : Nat) : Met l yX3_passTick wsX3_passTick ({ frames := 2, cells := 0, slots := 0, locals := 44 }) (va_Pc [.ref h0] (pzPre (dC, dI) vwCl [(h0, .inr (4, [.ref q1, .ref q2, .ref q3, .ref q4, .ref q5, .int tk, .int 0, .int 3, .int 20, .int 0, .int 0, .int 0, .int 0])), (q1, .inr (0, [.int 0, .ref z, .int 0])), (q3, .inr (0, [.int 0, .ref z, .int 0])), (q4, .inr (0, [.int 0, .ref z, .int 0]))] [] sz)) (va_Qv (fun _ : Unit => True) (fun (_ : Unit) (t : State) => va_P (dC, dI) vwCl [(h0, .inr (4, [.ref q1, .ref q2, .ref q3, .ref q4, .ref q5, .int (tk + 1), .int 0, .int 3, .int 20, .int 0, .int 0, .int 0, .int 0])), (q1, .inr (0, [.int 0, .ref z, .int 0])), (q3, .inr (0, [.int 0, .ref z, .int 0])), (q4, .inr (0, [.int 0, .ref z, .int 0]))] t.heap ∧ va_K (dC, dI) vwCl [] t ∧ va_D (va_A [(h0, .inr (4, [.ref q1, .ref q2, .ref q3, .ref q4, .ref q5, .int tk, .int 0, .int 3, .int 20, .int 0, .int 0, .int 0, .int 0])), (q1, .inr (0, [.int 0, .ref z, .int 0])), (q3, .inr (0, [.int 0, .ref z, .int 0])), (q4, .inr (0, [.int 0, .ref z, .int 0]))] sz) [(h0, .inr (4, [.ref q1, .ref q2, .ref q3, .ref q4, .ref q5, .int (tk + 1), .int 0, .int 3, .int 20, .int 0, .int 0, .int 0, .int 0])), (q1, .inr (0, [.int 0, .ref z, .int 0])), (q3, .inr (0, [.int 0, .ref z, .int 0])), (q4, .inr (0, [.int 0, .ref z, .int 0]))]) (va_A [(h0, .inr (4, [.ref q1, .ref q2, .ref q3, .ref q4, .ref q5, .int tk, .int 0, .int 3, .int 20, .int 0, .int 0, .int 0, .int 0])), (q1, .inr (0, [.int 0, .ref z, .int 0])), (q3, .inr (0, [.int 0, .ref z, .int 0])), (q4, .inr (0, [.int 0, .ref z, .int 0]))] sz)) 0 0 (va_A [(h0, .inr (4, [.ref q1, .ref q2, .ref q3, .ref q4, .ref q5, .int tk, .int 0, .int 3, .int 20, .int 0, .int 0, .int 0, .int 0])), (q1, .inr (0, [.int 0, .ref z, .int 0])), (q3, .inr (0, [.int 0, .ref z, .int 0])), (q4, .inr (0, [.int 0, .ref z, .int 0]))] sz) := by
  refine Met.ofW (cc := cX3_passTick) (maxL := 1) (ret := none) (by decide) rfl ?_
  intro p e s m args below meth c s₁ B hml hv
  obtain ⟨rfl, hsz, hP, hK, hD0⟩ := hv
  have hx := B.exec
  have hb := B.bytes
  have hr := B.returns
  have hts := atoms_spec (ws := wsX3_passTick) B.pre
  have hown : s.vm.findClass RX3 = some m.cls := findClass_of_methodNamed B.named
  have hlocks := B.notSynchronized
  subst hsz
  have hD := hD0.self (sz := s.heap.size)
  generalize hAe : va_A [(h0, .inr (4, [.ref q1, .ref q2, .ref q3, .ref q4, .ref q5, .int tk, .int 0, .int 3, .int 20, .int 0, .int 0, .int 0, .int 0])), (q1, .inr (0, [.int 0, .ref z, .int 0])), (q3, .inr (0, [.int 0, .ref z, .int 0])), (q4, .inr (0, [.int 0, .ref z, .int 0]))] s.heap.size = A at hD ⊢
  have hA : ∀ q : Nat, s.heap.size ≤ q → A q := fun q h => by rw [← hAe]; exact Or.inr h
  have hS : va_S A s.heap s.heap [] := va_S.rf
  have hP : va_P (dC, dI) vwCl [(h0, .inr (4, [.ref q1, .ref q2, .ref q3, .ref q4, .ref q5, .int tk, .int 0, .int 3, .int 20, .int 0, .int 0, .int 0, .int 0])), (q1, .inr (0, [.int 0, .ref z, .int 0])), (q3, .inr (0, [.int 0, .ref z, .int 0])), (q4, .inr (0, [.int 0, .ref z, .int 0]))] s.heap := hP
  have hl := lv_entry ([.ref h0]) (n := 1) (Nat.le_of_ble_eq_true rfl)
  rw [lg_entry_eq]
  generalize (lg_sl ([.ref h0]) ++ List.replicate (1 - (lg_sl ([.ref h0])).length) Slot.unset).toArray = ls at hl ⊢
  have hl : lv_has ls 1 [(0, .ref h0)] := hl
  refine lv_aload_n hx hb dX3_passTick_0 rfl (lv_at hl 0 rfl) ?_
  refine lv_dup hx hb dX3_passTick_1 rfl ?_
  refine va_get (D := (dC, dI)) (ci := 4) (v := .int tk) (C := RX3) (T := TX3) (N := 13) hx hb hts (fun _ h => List.mem_cons_of_mem _ (List.mem_append_left _ (List.mem_append_left _ (List.mem_append_left _ (List.mem_append_left _ (List.mem_append_right _ h)))))) hown hK hP 0 rfl rfl 5 (by decide) (hts (.fieldLink RX3 95 "FrontDoor" "tick" "I") (by decide +kernel)) (fun _ h9 => h9) rfl dX3_passTick_2 ?_
  refine lv_iconst (v := 1) hx hb dX3_passTick_5 (by decide) ?_
  refine lv_iadd hx hb dX3_passTick_6 ?_
  refine lv_topi (fun x_1 ex_1 => ?_)
  subst ex_1
  refine va_put (D := (dC, dI)) (ci := 4) (v := .int (tk + 1)) (ty := .int) (C := RX3) (T := TX3) (N := 13) hx hb hts (fun _ h => List.mem_cons_of_mem _ (List.mem_append_left _ (List.mem_append_left _ (List.mem_append_left _ (List.mem_append_left _ (List.mem_append_right _ h)))))) tyX3 tyX3_ok nmX3 hown hK hP hD hS 0 rfl rfl 5 (by decide) (hts (.fieldLink RX3 95 "FrontDoor" "tick" "I") (by decide +kernel)) (fun _ h9 => h9) rfl (by decide +kernel) rfl rfl (Nat.le_of_ble_eq_true rfl) dX3_passTick_7 (fun H locs hP hD hS => ?_)
  have hP : va_P (dC, dI) vwCl [(h0, .inr (4, [.ref q1, .ref q2, .ref q3, .ref q4, .ref q5, .int (tk + 1), .int 0, .int 3, .int 20, .int 0, .int 0, .int 0, .int 0])), (q1, .inr (0, [.int 0, .ref z, .int 0])), (q3, .inr (0, [.int 0, .ref z, .int 0])), (q4, .inr (0, [.int 0, .ref z, .int 0]))] H := hP
  have hD : va_D A [(h0, .inr (4, [.ref q1, .ref q2, .ref q3, .ref q4, .ref q5, .int (tk + 1), .int 0, .int 3, .int 20, .int 0, .int 0, .int 0, .int 0])), (q1, .inr (0, [.int 0, .ref z, .int 0])), (q3, .inr (0, [.int 0, .ref z, .int 0])), (q4, .inr (0, [.int 0, .ref z, .int 0]))] := hD
  refine lv_aload_n hx hb dX3_passTick_10 rfl (lv_at hl 0 rfl) ?_
  have hPc := hP.sub (ws' := [(h0, .inr (4, [.ref q1, .ref q2, .ref q3, .ref q4, .ref q5, .int (tk + 1), .int 0, .int 3, .int 20, .int 0, .int 0, .int 0, .int 0])), (q3, .inr (0, [.int 0, .ref z, .int 0]))]) [0, 2] rfl
  have hDc := hD.sub (ws' := [(h0, .inr (4, [.ref q1, .ref q2, .ref q3, .ref q4, .ref q5, .int (tk + 1), .int 0, .int 3, .int 20, .int 0, .int 0, .int 0, .int 0])), (q3, .inr (0, [.int 0, .ref z, .int 0]))]) [0, 2] (by decide) rfl
  have hKc := hK.sub (tys' := []) [] rfl
  have hFc := pz_f hA hS
  refine va_callv (va_runV (As := []) (rest := []) ⟨hx, hb, hml, hown, hts⟩ (k_X3_takeWhatIsOver l dC dI h0 q1 q2 q3 q4 q5 z (tk + 1) H.size) (cwV 0 hts gX3_passTick_X3_takeWhatIsOver rfl rfl rfl (by decide +kernel) ⟨Nat.le_of_ble_eq_true rfl, Nat.le_of_ble_eq_true rfl⟩) ⟨pz_blind, va_recv hKc hPc (ci := 4) (q0 := 0) rfl rfl, fun U hU hW => ⟨rfl, pz_at hPc hKc hDc hU hW⟩⟩ rfl rfl hl.1 rfl (lv_room (Nat.le_of_ble_eq_true rfl)) dX3_passTick_11 ⟨Nat.le_of_ble_eq_true rfl, Nat.le_of_ble_eq_true rfl⟩) hS (fun q _ h => hFc q h) hFc (fun u t H locs ht hvm hw hB hz1 hk1 hS => ?_)
  have hP := pz_keep hP hk1
  refine W.eq (g2 := F0 m 14 ls []) rfl ?_
  refine lv_aload_n hx hb dX3_passTick_14 rfl (lv_at hl 0 rfl) ?_
  have hPc := hP.sub (ws' := [(h0, .inr (4, [.ref q1, .ref q2, .ref q3, .ref q4, .ref q5, .int (tk + 1), .int 0, .int 3, .int 20, .int 0, .int 0, .int 0, .int 0])), (q3, .inr (0, [.int 0, .ref z, .int 0]))]) [0, 2] rfl
  have hDc := hD.sub (ws' := [(h0, .inr (4, [.ref q1, .ref q2, .ref q3, .ref q4, .ref q5, .int (tk + 1), .int 0, .int 3, .int 20, .int 0, .int 0, .int 0, .int 0])), (q3, .inr (0, [.int 0, .ref z, .int 0]))]) [0, 2] (by decide) rfl
  have hKc := hK.sub (tys' := []) [] rfl
  have hFc := pz_f hA hS
  refine va_callv (va_runV (As := []) (rest := []) ⟨hx, hb, hml, hown, hts⟩ (k_X3_meetDues l dC dI h0 q1 q2 q3 q4 q5 z (tk + 1) H.size) (cwV 0 hts gX3_passTick_X3_meetDues rfl rfl rfl (by decide +kernel) ⟨Nat.le_of_ble_eq_true rfl, Nat.le_of_ble_eq_true rfl⟩) ⟨pz_blind, va_recv hKc hPc (ci := 4) (q0 := 0) rfl rfl, fun U hU hW => ⟨rfl, pz_at hPc hKc hDc hU hW⟩⟩ rfl rfl hl.1 rfl (lv_room (Nat.le_of_ble_eq_true rfl)) dX3_passTick_15 ⟨Nat.le_of_ble_eq_true rfl, Nat.le_of_ble_eq_true rfl⟩) hS (fun q _ h => hFc q h) hFc (fun u t H locs ht hvm hw hB hz1 hk1 hS => ?_)
  have hP := pz_keep hP hk1
  refine W.eq (g2 := F0 m 18 ls []) rfl ?_
  refine lv_aload_n hx hb dX3_passTick_18 rfl (lv_at hl 0 rfl) ?_
  have hPc := hP.sub (ws' := [(h0, .inr (4, [.ref q1, .ref q2, .ref q3, .ref q4, .ref q5, .int (tk + 1), .int 0, .int 3, .int 20, .int 0, .int 0, .int 0, .int 0])), (q3, .inr (0, [.int 0, .ref z, .int 0]))]) [0, 2] rfl
  have hDc := hD.sub (ws' := [(h0, .inr (4, [.ref q1, .ref q2, .ref q3, .ref q4, .ref q5, .int (tk + 1), .int 0, .int 3, .int 20, .int 0, .int 0, .int 0, .int 0])), (q3, .inr (0, [.int 0, .ref z, .int 0]))]) [0, 2] (by decide) rfl
  have hKc := hK.sub (tys' := []) [] rfl
  have hFc := pz_f hA hS
  refine va_callv (va_runV (As := []) (rest := []) ⟨hx, hb, hml, hown, hts⟩ (k_X3_dropEnded l dC dI h0 q1 q2 q3 q4 q5 z (tk + 1) H.size) (cwV 0 hts gX3_passTick_X3_dropEnded rfl rfl rfl (by decide +kernel) ⟨Nat.le_of_ble_eq_true rfl, Nat.le_of_ble_eq_true rfl⟩) ⟨pz_blind, va_recv hKc hPc (ci := 4) (q0 := 0) rfl rfl, fun U hU hW => ⟨rfl, pz_at hPc hKc hDc hU hW⟩⟩ rfl rfl hl.1 rfl (lv_room (Nat.le_of_ble_eq_true rfl)) dX3_passTick_19 ⟨Nat.le_of_ble_eq_true rfl, Nat.le_of_ble_eq_true rfl⟩) hS (fun q _ h => hFc q h) hFc (fun u t H locs ht hvm hw hB hz1 hk1 hS => ?_)
  have hP := pz_keep hP hk1
  refine W.eq (g2 := F0 m 22 ls []) rfl ?_
  refine lv_aload_n hx hb dX3_passTick_22 rfl (lv_at hl 0 rfl) ?_
  have hPc := hP.sub (ws' := [(h0, .inr (4, [.ref q1, .ref q2, .ref q3, .ref q4, .ref q5, .int (tk + 1), .int 0, .int 3, .int 20, .int 0, .int 0, .int 0, .int 0])), (q1, .inr (0, [.int 0, .ref z, .int 0]))]) [0, 1] rfl
  have hDc := hD.sub (ws' := [(h0, .inr (4, [.ref q1, .ref q2, .ref q3, .ref q4, .ref q5, .int (tk + 1), .int 0, .int 3, .int 20, .int 0, .int 0, .int 0, .int 0])), (q1, .inr (0, [.int 0, .ref z, .int 0]))]) [0, 1] (by decide) rfl
  have hKc := hK.sub (tys' := []) [] rfl
  have hFc := pz_f hA hS
  refine va_callv (va_runV (As := []) (rest := []) ⟨hx, hb, hml, hown, hts⟩ (k_X3_tryThoseOut l dC dI h0 q1 q2 q3 q4 q5 z (tk + 1) H.size) (cwV 0 hts gX3_passTick_X3_tryThoseOut rfl rfl rfl (by decide +kernel) ⟨Nat.le_of_ble_eq_true rfl, Nat.le_of_ble_eq_true rfl⟩) ⟨pz_blind, va_recv hKc hPc (ci := 4) (q0 := 0) rfl rfl, fun U hU hW => ⟨rfl, pz_at hPc hKc hDc hU hW⟩⟩ rfl rfl hl.1 rfl (lv_room (Nat.le_of_ble_eq_true rfl)) dX3_passTick_23 ⟨Nat.le_of_ble_eq_true rfl, Nat.le_of_ble_eq_true rfl⟩) hS (fun q _ h => hFc q h) hFc (fun u t H locs ht hvm hw hB hz1 hk1 hS => ?_)
  have hP := pz_keep hP hk1
  refine W.eq (g2 := F0 m 26 ls []) rfl ?_
  refine lv_aload_n hx hb dX3_passTick_26 rfl (lv_at hl 0 rfl) ?_
  have hPc := hP.sub (ws' := [(h0, .inr (4, [.ref q1, .ref q2, .ref q3, .ref q4, .ref q5, .int (tk + 1), .int 0, .int 3, .int 20, .int 0, .int 0, .int 0, .int 0])), (q3, .inr (0, [.int 0, .ref z, .int 0]))]) [0, 2] rfl
  have hDc := hD.sub (ws' := [(h0, .inr (4, [.ref q1, .ref q2, .ref q3, .ref q4, .ref q5, .int (tk + 1), .int 0, .int 3, .int 20, .int 0, .int 0, .int 0, .int 0])), (q3, .inr (0, [.int 0, .ref z, .int 0]))]) [0, 2] (by decide) rfl
  have hKc := hK.sub (tys' := []) [] rfl
  have hFc := pz_f hA hS
  refine va_callv (va_runV (As := []) (rest := []) ⟨hx, hb, hml, hown, hts⟩ (k_X3_hedgeSlow l dC dI h0 q1 q2 q3 q4 q5 z (tk + 1) H.size) (cwV 0 hts gX3_passTick_X3_hedgeSlow rfl rfl rfl (by decide +kernel) ⟨Nat.le_of_ble_eq_true rfl, Nat.le_of_ble_eq_true rfl⟩) ⟨pz_blind, va_recv hKc hPc (ci := 4) (q0 := 0) rfl rfl, fun U hU hW => ⟨rfl, pz_at hPc hKc hDc hU hW⟩⟩ rfl rfl hl.1 rfl (lv_room (Nat.le_of_ble_eq_true rfl)) dX3_passTick_27 ⟨Nat.le_of_ble_eq_true rfl, Nat.le_of_ble_eq_true rfl⟩) hS (fun q _ h => hFc q h) hFc (fun u t H locs ht hvm hw hB hz1 hk1 hS => ?_)
  have hP := pz_keep hP hk1
  refine W.eq (g2 := F0 m 30 ls []) rfl ?_
  refine lv_aload_n hx hb dX3_passTick_30 rfl (lv_at hl 0 rfl) ?_
  have hPc := hP.sub (ws' := [(h0, .inr (4, [.ref q1, .ref q2, .ref q3, .ref q4, .ref q5, .int (tk + 1), .int 0, .int 3, .int 20, .int 0, .int 0, .int 0, .int 0])), (q4, .inr (0, [.int 0, .ref z, .int 0]))]) [0, 3] rfl
  have hDc := hD.sub (ws' := [(h0, .inr (4, [.ref q1, .ref q2, .ref q3, .ref q4, .ref q5, .int (tk + 1), .int 0, .int 3, .int 20, .int 0, .int 0, .int 0, .int 0])), (q4, .inr (0, [.int 0, .ref z, .int 0]))]) [0, 3] (by decide) rfl
  have hKc := hK.sub (tys' := []) [] rfl
  have hFc := pz_f hA hS
  refine va_callv (va_runV (As := []) (rest := []) ⟨hx, hb, hml, hown, hts⟩ (k_X3_askQueued l dC dI h0 q1 q2 q3 q4 q5 z (tk + 1) H.size) (cwV 0 hts gX3_passTick_X3_askQueued rfl rfl rfl (by decide +kernel) ⟨Nat.le_of_ble_eq_true rfl, Nat.le_of_ble_eq_true rfl⟩) ⟨pz_blind, va_recv hKc hPc (ci := 4) (q0 := 0) rfl rfl, fun U hU hW => ⟨rfl, pz_at hPc hKc hDc hU hW⟩⟩ rfl rfl hl.1 rfl (lv_room (Nat.le_of_ble_eq_true rfl)) dX3_passTick_31 ⟨Nat.le_of_ble_eq_true rfl, Nat.le_of_ble_eq_true rfl⟩) hS (fun q _ h => hFc q h) hFc (fun u t H locs ht hvm hw hB hz1 hk1 hS => ?_)
  have hP := pz_keep hP hk1
  refine W.eq (g2 := F0 m 34 ls []) rfl ?_
  refine lv_aload_n hx hb dX3_passTick_34 rfl (lv_at hl 0 rfl) ?_
  have hPc := hP.sub (ws' := [(h0, .inr (4, [.ref q1, .ref q2, .ref q3, .ref q4, .ref q5, .int (tk + 1), .int 0, .int 3, .int 20, .int 0, .int 0, .int 0, .int 0])), (q1, .inr (0, [.int 0, .ref z, .int 0]))]) [0, 1] rfl
  have hDc := hD.sub (ws' := [(h0, .inr (4, [.ref q1, .ref q2, .ref q3, .ref q4, .ref q5, .int (tk + 1), .int 0, .int 3, .int 20, .int 0, .int 0, .int 0, .int 0])), (q1, .inr (0, [.int 0, .ref z, .int 0]))]) [0, 1] (by decide) rfl
  have hKc := hK.sub (tys' := []) [] rfl
  have hFc := pz_f hA hS
  refine va_callv (va_runV (As := []) (rest := []) ⟨hx, hb, hml, hown, hts⟩ (k_X3_letDrainedGo l dC dI h0 q1 q2 q3 q4 q5 z (tk + 1) H.size) (cwV 0 hts gX3_passTick_X3_letDrainedGo rfl rfl rfl (by decide +kernel) ⟨Nat.le_of_ble_eq_true rfl, Nat.le_of_ble_eq_true rfl⟩) ⟨pz_blind, va_recv hKc hPc (ci := 4) (q0 := 0) rfl rfl, fun U hU hW => ⟨rfl, pz_at hPc hKc hDc hU hW⟩⟩ rfl rfl hl.1 rfl (lv_room (Nat.le_of_ble_eq_true rfl)) dX3_passTick_35 ⟨Nat.le_of_ble_eq_true rfl, Nat.le_of_ble_eq_true rfl⟩) hS (fun q _ h => hFc q h) hFc (fun u t H locs ht hvm hw hB hz1 hk1 hS => ?_)
  have hP := pz_keep hP hk1
  refine W.eq (g2 := F0 m 38 ls []) rfl ?_
  have hP9 := hP.sub (ws' := [(h0, .inr (4, [.ref q1, .ref q2, .ref q3, .ref q4, .ref q5, .int (tk + 1), .int 0, .int 3, .int 20, .int 0, .int 0, .int 0, .int 0])), (q1, .inr (0, [.int 0, .ref z, .int 0])), (q3, .inr (0, [.int 0, .ref z, .int 0])), (q4, .inr (0, [.int 0, .ref z, .int 0]))]) [0, 1, 2, 3] rfl
  have hD9 := hD.sub (ws' := [(h0, .inr (4, [.ref q1, .ref q2, .ref q3, .ref q4, .ref q5, .int (tk + 1), .int 0, .int 3, .int 20, .int 0, .int 0, .int 0, .int 0])), (q1, .inr (0, [.int 0, .ref z, .int 0])), (q3, .inr (0, [.int 0, .ref z, .int 0])), (q4, .inr (0, [.int 0, .ref z, .int 0]))]) [0, 1, 2, 3] (by decide) rfl
  have hK9 := hK.sub (tys' := []) [] rfl
  exact W.vret hx hb hr (fun t ht hW => ⟨⟨(), rfl, trivial, ⟨by rw [ht]; exact hP9, va_K.moved hW.alike hK9, hD9⟩⟩, hS.F ht⟩) hS.2.2 dX3_passTick_38
end
section
theorem pz_aI (n : Nat) : ∀ cA : ClassId, vp_cell cA (n, .inl (fun _ => 0)) = arrV cA n (fun _ => defaultValue .int) := fun _ => rfl
theorem pz_aZ (n : Nat) : ∀ cA : ClassId, vp_cell cA (n, .inl (fun _ => 0)) = arrV cA n (fun _ => defaultValue .boolean) := fun _ => rfl
theorem pz_bI7 : 7 * componentBytes .int ≤ 536870912 := by decide +kernel
theorem pz_bI8 : 8 * componentBytes .int ≤ 536870912 := by decide +kernel
theorem pz_bI200 : 200 * componentBytes .int ≤ 536870912 := by decide +kernel
theorem pz_bI400 : 400 * componentBytes .int ≤ 536870912 := by decide +kernel
theorem pz_bZ200 : 200 * componentBytes .boolean ≤ 536870912 := by decide +kernel
theorem pz_bZ400 : 400 * componentBytes .boolean ≤ 536870912 := by decide +kernel
theorem pz_n7 : ¬ (7 : Int32) < 0 := by decide +kernel
theorem pz_n8 : ¬ (8 : Int32) < 0 := by decide +kernel
theorem pz_n200 : ¬ (200 : Int32) < 0 := by decide +kernel
theorem pz_n400 : ¬ (400 : Int32) < 0 := by decide +kernel
theorem pz_c7 : (7 : Int32).toNatClampNeg = 7 := by decide +kernel
theorem pz_c8 : (8 : Int32).toNatClampNeg = 8 := by decide +kernel
theorem pz_c200 : (200 : Int32).toNatClampNeg = 200 := by decide +kernel
theorem pz_c400 : (400 : Int32).toNatClampNeg = 400 := by decide +kernel
end
section
set_option maxHeartbeats 800000 in
set_option maxRecDepth 100000 in
theorem c5 (l : Launch) (dC : Nat → ClassId) (dI : Nat → Nat → Nat) (h0 : Nat) (z : Nat) (sz : Nat) : Met l yX3_init wsX3_init ({ frames := 4, cells := 5, slots := 19, locals := 72 }) (va_Pc [.ref h0] (pzPreZ (dC, dI) vwCl [(h0, .inr (4, [.null, .null, .null, .null, .null, .int 0, .int 0, .int 0, .int 0, .int 0, .int 0, .int 0, .int 0]))] [] sz z)) (va_Qv (fun _ : Unit => True) (fun (_ : Unit) (t : State) => ∃ q1 : Nat, ∃ q2 : Nat, ∃ q3 : Nat, ∃ q4 : Nat, ∃ q5 : Nat, ∃ cI : ClassId, va_P (dC, dI) vwCl [(h0, .inr (4, [.ref q1, .ref q2, .ref q3, .ref q4, .ref q5, .int 0, .int 0, .int 3, .int 20, .int 0, .int 0, .int 0, .int 0])), (q1, .inr (0, [.int 0, .ref z, .int 0])), (q2, .inr (0, [.int 0, .ref z, .int 0])), (q3, .inr (0, [.int 0, .ref z, .int 0])), (q4, .inr (0, [.int 0, .ref z, .int 0])), (q5, .inl (cI, 7, .inl (fun _ => 0)))] t.heap ∧ va_K (dC, dI) vwCl [(cI, .int)] t ∧ va_D (va_A [(h0, .inr (4, [.null, .null, .null, .null, .null, .int 0, .int 0, .int 0, .int 0, .int 0, .int 0, .int 0, .int 0]))] sz) [(h0, .inr (4, [.ref q1, .ref q2, .ref q3, .ref q4, .ref q5, .int 0, .int 0, .int 3, .int 20, .int 0, .int 0, .int 0, .int 0])), (q1, .inr (0, [.int 0, .ref z, .int 0])), (q2, .inr (0, [.int 0, .ref z, .int 0])), (q3, .inr (0, [.int 0, .ref z, .int 0])), (q4, .inr (0, [.int 0, .ref z, .int 0])), (q5, .inl (cI, 7, .inl (fun _ => 0)))]) (va_A [(h0, .inr (4, [.null, .null, .null, .null, .null, .int 0, .int 0, .int 0, .int 0, .int 0, .int 0, .int 0, .int 0]))] sz)) 5 19 (va_A [(h0, .inr (4, [.null, .null, .null, .null, .null, .int 0, .int 0, .int 0, .int 0, .int 0, .int 0, .int 0, .int 0]))] sz) := by
  refine Met.ofW (cc := cX3_init) (maxL := 1) (ret := none) (by decide) rfl ?_
  intro p e s m args below meth c s₁ B hml hv
  obtain ⟨rfl, ⟨hsz, hP, hK, hD0⟩, hZ⟩ := hv
  have hx := B.exec
  have hb := B.bytes
  have hr := B.returns
  have hts := atoms_spec (ws := wsX3_init) B.pre
  have hown : s.vm.findClass RX3 = some m.cls := findClass_of_methodNamed B.named
  have hlocks := B.notSynchronized
  have hin : meth.name = "<init>" := (name_of_methodNamed B.named B.method).1
  subst hsz
  have hD := hD0.self (sz := s.heap.size)
  generalize hAe : va_A [(h0, .inr (4, [.null, .null, .null, .null, .null, .int 0, .int 0, .int 0, .int 0, .int 0, .int 0, .int 0, .int 0]))] s.heap.size = A at hD hZ ⊢
  have hA : ∀ q : Nat, s.heap.size ≤ q → A q := fun q h => by rw [← hAe]; exact Or.inr h
  have hS : va_S A s.heap s.heap [] := va_S.rf
  have hP : va_P (dC, dI) vwCl [(h0, .inr (4, [.null, .null, .null, .null, .null, .int 0, .int 0, .int 0, .int 0, .int 0, .int 0, .int 0, .int 0]))] s.heap := hP
  have hl := lv_entry ([.ref h0]) (n := 1) (Nat.le_of_ble_eq_true rfl)
  rw [lg_entry_eq]
  generalize (lg_sl ([.ref h0]) ++ List.replicate (1 - (lg_sl ([.ref h0])).length) Slot.unset).toArray = ls at hl ⊢
  have hl : lv_has ls 1 [(0, .ref h0)] := hl
  refine lv_aload_n hx hb dX3_init_0 rfl (lv_at hl 0 rfl) ?_
  refine W.objInit hx hb hown (hts (.methodLink RX3 1 objectInit) (by decide +kernel)) (hts (.instanceMethod objectInit) (by decide +kernel)) (hts (.code objectInit ⟨#[0xb1]⟩ 1 none) (by decide +kernel)) rfl (by rw [hml]; exact hl.1) rfl dX3_init_1 (Nat.le_of_ble_eq_true rfl) (Nat.le_of_ble_eq_true rfl) ?_
  refine W.eq (g2 := F0 m 4 ls []) rfl ?_
  refine lv_aload_n hx hb dX3_init_4 rfl (lv_at hl 0 rfl) ?_
  refine va_new (ci := 0) (fs := [.int 0, .null, .int 0]) (C := RJx4a65c) (T := TJx4a65c) (N := 3) hx hb hts (fun _ h => List.mem_cons_of_mem _ (List.mem_append_left _ (List.mem_append_right _ h))) tyJx4a65c tyJx4a65c_ok hown (hts (.classLink RX3 7 RJx4a65c) (by decide +kernel)) (hts (.instantiable RJx4a65c 3) (by decide +kernel)) (hts (.initialized RJx4a65c) (by decide +kernel)) hK hP hD hS hA rfl (fun j hj => match j, hj with | 0, _ => rfl | 1, _ => rfl | 2, _ => rfl | z9 + 3, h9 => absurd h9 (by omega)) (Nat.le_of_ble_eq_true rfl) (Nat.le_of_ble_eq_true rfl) dX3_init_5 (fun q_1 H hP hD hS => ?_)
  have hP : va_P (dC, dI) vwCl [(h0, .inr (4, [.null, .null, .null, .null, .null, .int 0, .int 0, .int 0, .int 0, .int 0, .int 0, .int 0, .int 0])), (q_1, .inr (0, [.int 0, .null, .int 0]))] H := hP
  have hD : va_D A [(h0, .inr (4, [.null, .null, .null, .null, .null, .int 0, .int 0, .int 0, .int 0, .int 0, .int 0, .int 0, .int 0])), (q_1, .inr (0, [.int 0, .null, .int 0]))] := hD
  refine W.widen (k := 1) (n := 3) (Nat.le_refl 1) (Nat.le_refl 3) ?_
  refine lv_dup hx hb dX3_init_8 rfl ?_
  have hPc := hP.sub (ws' := [(q_1, .inr (0, [.int 0, .null, .int 0]))]) [1] rfl
  have hDc := hD.sub (ws' := [(q_1, .inr (0, [.int 0, .null, .int 0]))]) [1] (by decide) rfl
  have hKc := hK.sub (tys' := []) [] rfl
  have hFc := va_free (wc := [(q_1, .inr (0, [.int 0, .null, .int 0]))]) hD hS hA [1] rfl
  refine va_callv (va_runI (As := []) (rest := [.ref q_1, .ref h0]) ⟨hx, hb, hml, hown, hts⟩ (k_Jx4a65c_init_da8c8 l dC dI q_1 z H.size) (cwI 0 hts gX3_init_Jx4a65c_init_da8c8 rfl rfl rfl (hts (.initialized RJx4a65c) (by decide +kernel)) (hts (.methodLink RX3 9 yJx4a65c_init_da8c8) (by decide +kernel)) (hts (.instanceMethod yJx4a65c_init_da8c8) (by decide +kernel)) rfl (by decide +kernel) ⟨Nat.le_of_ble_eq_true rfl, Nat.le_of_ble_eq_true rfl⟩) ⟨pz_blindZ, fun U hU hW => ⟨rfl, ⟨pz_at hPc hKc hDc hU hW, pz_Zat hZ hS hFc hU hW⟩⟩⟩ rfl rfl hl.1 rfl (lv_room (Nat.le_of_ble_eq_true rfl)) dX3_init_9 ⟨Nat.le_of_ble_eq_true rfl, Nat.le_of_ble_eq_true rfl⟩) hS (fun q _ h => hFc q h) hFc (fun u t H locs ht hvm hw hB hz1 hk1 hS => ?_)
  obtain ⟨hP1, hK1, hD1⟩ := hB
  rw [ht] at hP1
  have hK1 := va_K.moved hvm.symm hK1
  obtain ⟨hP, hD⟩ := va_join (wr := [(h0, .inr (4, [.null, .null, .null, .null, .null, .int 0, .int 0, .int 0, .int 0, .int 0, .int 0, .int 0, .int 0]))]) (w1 := [(q_1, .inr (0, [.int 0, .ref z, .int 0]))]) hP hD [1] [0] rfl rfl (by decide) (by decide) hk1 hFc hP1 hD1
  have hK := hK.app hK1
  have hK : va_K (dC, dI) vwCl [] s := hK
  have hP : va_P (dC, dI) vwCl [(h0, .inr (4, [.null, .null, .null, .null, .null, .int 0, .int 0, .int 0, .int 0, .int 0, .int 0, .int 0, .int 0])), (q_1, .inr (0, [.int 0, .ref z, .int 0]))] H := hP
  have hD : va_D A [(h0, .inr (4, [.null, .null, .null, .null, .null, .int 0, .int 0, .int 0, .int 0, .int 0, .int 0, .int 0, .int 0])), (q_1, .inr (0, [.int 0, .ref z, .int 0]))] := hD
  refine W.eq (g2 := F0 m 12 ls [.ref q_1, .ref h0]) rfl ?_
  refine va_putF (D := (dC, dI)) (ci := 4) (v := .ref q_1) (ty := .object "java/util/ArrayList") (C := RX3) (T := TX3) (N := 13) hx hb hts (fun _ h => List.mem_cons_of_mem _ (List.mem_append_right _ h)) tyX3 tyX3_ok nmX3 hown hK hP hD hS 0 rfl rfl 0 (by decide) (hts (.fieldLink RX3 10 "FrontDoor" "servers" "Ljava/util/ArrayList;") (by decide +kernel)) (fun _ h9 => h9) rfl hin rfl (by decide +kernel) rfl rfl (Nat.le_of_ble_eq_true rfl) dX3_init_12 (fun H locs hP hD hS => ?_)
  have hP : va_P (dC, dI) vwCl [(h0, .inr (4, [.ref q_1, .null, .null, .null, .null, .int 0, .int 0, .int 0, .int 0, .int 0, .int 0, .int 0, .int 0])), (q_1, .inr (0, [.int 0, .ref z, .int 0]))] H := hP
  have hD : va_D A [(h0, .inr (4, [.ref q_1, .null, .null, .null, .null, .int 0, .int 0, .int 0, .int 0, .int 0, .int 0, .int 0, .int 0])), (q_1, .inr (0, [.int 0, .ref z, .int 0]))] := hD
  refine lv_aload_n hx hb dX3_init_15 rfl (lv_at hl 0 rfl) ?_
  refine va_new (ci := 0) (fs := [.int 0, .null, .int 0]) (C := RJx4a65c) (T := TJx4a65c) (N := 3) hx hb hts (fun _ h => List.mem_cons_of_mem _ (List.mem_append_left _ (List.mem_append_right _ h))) tyJx4a65c tyJx4a65c_ok hown (hts (.classLink RX3 7 RJx4a65c) (by decide +kernel)) (hts (.instantiable RJx4a65c 3) (by decide +kernel)) (hts (.initialized RJx4a65c) (by decide +kernel)) hK hP hD hS hA rfl (fun j hj => match j, hj with | 0, _ => rfl | 1, _ => rfl | 2, _ => rfl | z9 + 3, h9 => absurd h9 (by omega)) (Nat.le_of_ble_eq_true rfl) (Nat.le_of_ble_eq_true rfl) dX3_init_16 (fun q_3 H hP hD hS => ?_)
  have hP : va_P (dC, dI) vwCl [(h0, .inr (4, [.ref q_1, .null, .null, .null, .null, .int 0, .int 0, .int 0, .int 0, .int 0, .int 0, .int 0, .int 0])), (q_1, .inr (0, [.int 0, .ref z, .int 0])), (q_3, .inr (0, [.int 0, .null, .int 0]))] H := hP
  have hD : va_D A [(h0, .inr (4, [.ref q_1, .null, .null, .null, .null, .int 0, .int 0, .int 0, .int 0, .int 0, .int 0, .int 0, .int 0])), (q_1, .inr (0, [.int 0, .ref z, .int 0])), (q_3, .inr (0, [.int 0, .null, .int 0]))] := hD
  refine W.widen (k := 2) (n := 6) (Nat.le_refl 2) (Nat.le_refl 6) ?_
  refine lv_dup hx hb dX3_init_19 rfl ?_
  have hPc := hP.sub (ws' := [(q_3, .inr (0, [.int 0, .null, .int 0]))]) [2] rfl
  have hDc := hD.sub (ws' := [(q_3, .inr (0, [.int 0, .null, .int 0]))]) [2] (by decide) rfl
  have hKc := hK.sub (tys' := []) [] rfl
  have hFc := va_free (wc := [(q_3, .inr (0, [.int 0, .null, .int 0]))]) hD hS hA [2] rfl
  refine va_callv (va_runI (As := []) (rest := [.ref q_3, .ref h0]) ⟨hx, hb, hml, hown, hts⟩ (k_Jx4a65c_init_da8c8 l dC dI q_3 z H.size) (cwI 0 hts gX3_init_Jx4a65c_init_da8c8 rfl rfl rfl (hts (.initialized RJx4a65c) (by decide +kernel)) (hts (.methodLink RX3 9 yJx4a65c_init_da8c8) (by decide +kernel)) (hts (.instanceMethod yJx4a65c_init_da8c8) (by decide +kernel)) rfl (by decide +kernel) ⟨Nat.le_of_ble_eq_true rfl, Nat.le_of_ble_eq_true rfl⟩) ⟨pz_blindZ, fun U hU hW => ⟨rfl, ⟨pz_at hPc hKc hDc hU hW, pz_Zat hZ hS hFc hU hW⟩⟩⟩ rfl rfl hl.1 rfl (lv_room (Nat.le_of_ble_eq_true rfl)) dX3_init_20 ⟨Nat.le_of_ble_eq_true rfl, Nat.le_of_ble_eq_true rfl⟩) hS (fun q _ h => hFc q h) hFc (fun u t H locs ht hvm hw hB hz1 hk1 hS => ?_)
  obtain ⟨hP1, hK1, hD1⟩ := hB
  rw [ht] at hP1
  have hK1 := va_K.moved hvm.symm hK1
  obtain ⟨hP, hD⟩ := va_join (wr := [(h0, .inr (4, [.ref q_1, .null, .null, .null, .null, .int 0, .int 0, .int 0, .int 0, .int 0, .int 0, .int 0, .int 0])), (q_1, .inr (0, [.int 0, .ref z, .int 0]))]) (w1 := [(q_3, .inr (0, [.int 0, .ref z, .int 0]))]) hP hD [2] [0, 1] rfl rfl (by decide) (by decide) hk1 hFc hP1 hD1
  have hK := hK.app hK1
  have hK : va_K (dC, dI) vwCl [] s := hK
  have hP : va_P (dC, dI) vwCl [(h0, .inr (4, [.ref q_1, .null, .null, .null, .null, .int 0, .int 0, .int 0, .int 0, .int 0, .int 0, .int 0, .int 0])), (q_1, .inr (0, [.int 0, .ref z, .int 0])), (q_3, .inr (0, [.int 0, .ref z, .int 0]))] H := hP
  have hD : va_D A [(h0, .inr (4, [.ref q_1, .null, .null, .null, .null, .int 0, .int 0, .int 0, .int 0, .int 0, .int 0, .int 0, .int 0])), (q_1, .inr (0, [.int 0, .ref z, .int 0])), (q_3, .inr (0, [.int 0, .ref z, .int 0]))] := hD
  refine W.eq (g2 := F0 m 23 ls [.ref q_3, .ref h0]) rfl ?_
  refine va_putF (D := (dC, dI)) (ci := 4) (v := .ref q_3) (ty := .object "java/util/ArrayList") (C := RX3) (T := TX3) (N := 13) hx hb hts (fun _ h => List.mem_cons_of_mem _ (List.mem_append_right _ h)) tyX3 tyX3_ok nmX3 hown hK hP hD hS 0 rfl rfl 1 (by decide) (hts (.fieldLink RX3 16 "FrontDoor" "calls" "Ljava/util/ArrayList;") (by decide +kernel)) (fun _ h9 => h9) rfl hin rfl (by decide +kernel) rfl rfl (Nat.le_of_ble_eq_true rfl) dX3_init_23 (fun H locs hP hD hS => ?_)
  have hP : va_P (dC, dI) vwCl [(h0, .inr (4, [.ref q_1, .ref q_3, .null, .null, .null, .int 0, .int 0, .int 0, .int 0, .int 0, .int 0, .int 0, .int 0])), (q_1, .inr (0, [.int 0, .ref z, .int 0])), (q_3, .inr (0, [.int 0, .ref z, .int 0]))] H := hP
  have hD : va_D A [(h0, .inr (4, [.ref q_1, .ref q_3, .null, .null, .null, .int 0, .int 0, .int 0, .int 0, .int 0, .int 0, .int 0, .int 0])), (q_1, .inr (0, [.int 0, .ref z, .int 0])), (q_3, .inr (0, [.int 0, .ref z, .int 0]))] := hD
  refine lv_aload_n hx hb dX3_init_26 rfl (lv_at hl 0 rfl) ?_
  refine va_new (ci := 0) (fs := [.int 0, .null, .int 0]) (C := RJx4a65c) (T := TJx4a65c) (N := 3) hx hb hts (fun _ h => List.mem_cons_of_mem _ (List.mem_append_left _ (List.mem_append_right _ h))) tyJx4a65c tyJx4a65c_ok hown (hts (.classLink RX3 7 RJx4a65c) (by decide +kernel)) (hts (.instantiable RJx4a65c 3) (by decide +kernel)) (hts (.initialized RJx4a65c) (by decide +kernel)) hK hP hD hS hA rfl (fun j hj => match j, hj with | 0, _ => rfl | 1, _ => rfl | 2, _ => rfl | z9 + 3, h9 => absurd h9 (by omega)) (Nat.le_of_ble_eq_true rfl) (Nat.le_of_ble_eq_true rfl) dX3_init_27 (fun q_5 H hP hD hS => ?_)
  have hP : va_P (dC, dI) vwCl [(h0, .inr (4, [.ref q_1, .ref q_3, .null, .null, .null, .int 0, .int 0, .int 0, .int 0, .int 0, .int 0, .int 0, .int 0])), (q_1, .inr (0, [.int 0, .ref z, .int 0])), (q_3, .inr (0, [.int 0, .ref z, .int 0])), (q_5, .inr (0, [.int 0, .null, .int 0]))] H := hP
  have hD : va_D A [(h0, .inr (4, [.ref q_1, .ref q_3, .null, .null, .null, .int 0, .int 0, .int 0, .int 0, .int 0, .int 0, .int 0, .int 0])), (q_1, .inr (0, [.int 0, .ref z, .int 0])), (q_3, .inr (0, [.int 0, .ref z, .int 0])), (q_5, .inr (0, [.int 0, .null, .int 0]))] := hD
  refine W.widen (k := 3) (n := 9) (Nat.le_refl 3) (Nat.le_refl 9) ?_
  refine lv_dup hx hb dX3_init_30 rfl ?_
  have hPc := hP.sub (ws' := [(q_5, .inr (0, [.int 0, .null, .int 0]))]) [3] rfl
  have hDc := hD.sub (ws' := [(q_5, .inr (0, [.int 0, .null, .int 0]))]) [3] (by decide) rfl
  have hKc := hK.sub (tys' := []) [] rfl
  have hFc := va_free (wc := [(q_5, .inr (0, [.int 0, .null, .int 0]))]) hD hS hA [3] rfl
  refine va_callv (va_runI (As := []) (rest := [.ref q_5, .ref h0]) ⟨hx, hb, hml, hown, hts⟩ (k_Jx4a65c_init_da8c8 l dC dI q_5 z H.size) (cwI 0 hts gX3_init_Jx4a65c_init_da8c8 rfl rfl rfl (hts (.initialized RJx4a65c) (by decide +kernel)) (hts (.methodLink RX3 9 yJx4a65c_init_da8c8) (by decide +kernel)) (hts (.instanceMethod yJx4a65c_init_da8c8) (by decide +kernel)) rfl (by decide +kernel) ⟨Nat.le_of_ble_eq_true rfl, Nat.le_of_ble_eq_true rfl⟩) ⟨pz_blindZ, fun U hU hW => ⟨rfl, ⟨pz_at hPc hKc hDc hU hW, pz_Zat hZ hS hFc hU hW⟩⟩⟩ rfl rfl hl.1 rfl (lv_room (Nat.le_of_ble_eq_true rfl)) dX3_init_31 ⟨Nat.le_of_ble_eq_true rfl, Nat.le_of_ble_eq_true rfl⟩) hS (fun q _ h => hFc q h) hFc (fun u t H locs ht hvm hw hB hz1 hk1 hS => ?_)
  obtain ⟨hP1, hK1, hD1⟩ := hB
  rw [ht] at hP1
  have hK1 := va_K.moved hvm.symm hK1
  obtain ⟨hP, hD⟩ := va_join (wr := [(h0, .inr (4, [.ref q_1, .ref q_3, .null, .null, .null, .int 0, .int 0, .int 0, .int 0, .int 0, .int 0, .int 0, .int 0])), (q_1, .inr (0, [.int 0, .ref z, .int 0])), (q_3, .inr (0, [.int 0, .ref z, .int 0]))]) (w1 := [(q_5, .inr (0, [.int 0, .ref z, .int 0]))]) hP hD [3] [0, 1, 2] rfl rfl (by decide) (by decide) hk1 hFc hP1 hD1
  have hK := hK.app hK1
  have hK : va_K (dC, dI) vwCl [] s := hK
  have hP : va_P (dC, dI) vwCl [(h0, .inr (4, [.ref q_1, .ref q_3, .null, .null, .null, .int 0, .int 0, .int 0, .int 0, .int 0, .int 0, .int 0, .int 0])), (q_1, .inr (0, [.int 0, .ref z, .int 0])), (q_3, .inr (0, [.int 0, .ref z, .int 0])), (q_5, .inr (0, [.int 0, .ref z, .int 0]))] H := hP
  have hD : va_D A [(h0, .inr (4, [.ref q_1, .ref q_3, .null, .null, .null, .int 0, .int 0, .int 0, .int 0, .int 0, .int 0, .int 0, .int 0])), (q_1, .inr (0, [.int 0, .ref z, .int 0])), (q_3, .inr (0, [.int 0, .ref z, .int 0])), (q_5, .inr (0, [.int 0, .ref z, .int 0]))] := hD
  refine W.eq (g2 := F0 m 34 ls [.ref q_5, .ref h0]) rfl ?_
  refine va_putF (D := (dC, dI)) (ci := 4) (v := .ref q_5) (ty := .object "java/util/ArrayList") (C := RX3) (T := TX3) (N := 13) hx hb hts (fun _ h => List.mem_cons_of_mem _ (List.mem_append_right _ h)) tyX3 tyX3_ok nmX3 hown hK hP hD hS 0 rfl rfl 2 (by decide) (hts (.fieldLink RX3 19 "FrontDoor" "live" "Ljava/util/ArrayList;") (by decide +kernel)) (fun _ h9 => h9) rfl hin rfl (by decide +kernel) rfl rfl (Nat.le_of_ble_eq_true rfl) dX3_init_34 (fun H locs hP hD hS => ?_)
  have hP : va_P (dC, dI) vwCl [(h0, .inr (4, [.ref q_1, .ref q_3, .ref q_5, .null, .null, .int 0, .int 0, .int 0, .int 0, .int 0, .int 0, .int 0, .int 0])), (q_1, .inr (0, [.int 0, .ref z, .int 0])), (q_3, .inr (0, [.int 0, .ref z, .int 0])), (q_5, .inr (0, [.int 0, .ref z, .int 0]))] H := hP
  have hD : va_D A [(h0, .inr (4, [.ref q_1, .ref q_3, .ref q_5, .null, .null, .int 0, .int 0, .int 0, .int 0, .int 0, .int 0, .int 0, .int 0])), (q_1, .inr (0, [.int 0, .ref z, .int 0])), (q_3, .inr (0, [.int 0, .ref z, .int 0])), (q_5, .inr (0, [.int 0, .ref z, .int 0]))] := hD
  refine lv_aload_n hx hb dX3_init_37 rfl (lv_at hl 0 rfl) ?_
  refine va_new (ci := 0) (fs := [.int 0, .null, .int 0]) (C := RJx4a65c) (T := TJx4a65c) (N := 3) hx hb hts (fun _ h => List.mem_cons_of_mem _ (List.mem_append_left _ (List.mem_append_right _ h))) tyJx4a65c tyJx4a65c_ok hown (hts (.classLink RX3 7 RJx4a65c) (by decide +kernel)) (hts (.instantiable RJx4a65c 3) (by decide +kernel)) (hts (.initialized RJx4a65c) (by decide +kernel)) hK hP hD hS hA rfl (fun j hj => match j, hj with | 0, _ => rfl | 1, _ => rfl | 2, _ => rfl | z9 + 3, h9 => absurd h9 (by omega)) (Nat.le_of_ble_eq_true rfl) (Nat.le_of_ble_eq_true rfl) dX3_init_38 (fun q_7 H hP hD hS => ?_)
  have hP : va_P (dC, dI) vwCl [(h0, .inr (4, [.ref q_1, .ref q_3, .ref q_5, .null, .null, .int 0, .int 0, .int 0, .int 0, .int 0, .int 0, .int 0, .int 0])), (q_1, .inr (0, [.int 0, .ref z, .int 0])), (q_3, .inr (0, [.int 0, .ref z, .int 0])), (q_5, .inr (0, [.int 0, .ref z, .int 0])), (q_7, .inr (0, [.int 0, .null, .int 0]))] H := hP
  have hD : va_D A [(h0, .inr (4, [.ref q_1, .ref q_3, .ref q_5, .null, .null, .int 0, .int 0, .int 0, .int 0, .int 0, .int 0, .int 0, .int 0])), (q_1, .inr (0, [.int 0, .ref z, .int 0])), (q_3, .inr (0, [.int 0, .ref z, .int 0])), (q_5, .inr (0, [.int 0, .ref z, .int 0])), (q_7, .inr (0, [.int 0, .null, .int 0]))] := hD
  refine W.widen (k := 4) (n := 12) (Nat.le_refl 4) (Nat.le_refl 12) ?_
  refine lv_dup hx hb dX3_init_41 rfl ?_
  have hPc := hP.sub (ws' := [(q_7, .inr (0, [.int 0, .null, .int 0]))]) [4] rfl
  have hDc := hD.sub (ws' := [(q_7, .inr (0, [.int 0, .null, .int 0]))]) [4] (by decide) rfl
  have hKc := hK.sub (tys' := []) [] rfl
  have hFc := va_free (wc := [(q_7, .inr (0, [.int 0, .null, .int 0]))]) hD hS hA [4] rfl
  refine va_callv (va_runI (As := []) (rest := [.ref q_7, .ref h0]) ⟨hx, hb, hml, hown, hts⟩ (k_Jx4a65c_init_da8c8 l dC dI q_7 z H.size) (cwI 0 hts gX3_init_Jx4a65c_init_da8c8 rfl rfl rfl (hts (.initialized RJx4a65c) (by decide +kernel)) (hts (.methodLink RX3 9 yJx4a65c_init_da8c8) (by decide +kernel)) (hts (.instanceMethod yJx4a65c_init_da8c8) (by decide +kernel)) rfl (by decide +kernel) ⟨Nat.le_of_ble_eq_true rfl, Nat.le_of_ble_eq_true rfl⟩) ⟨pz_blindZ, fun U hU hW => ⟨rfl, ⟨pz_at hPc hKc hDc hU hW, pz_Zat hZ hS hFc hU hW⟩⟩⟩ rfl rfl hl.1 rfl (lv_room (Nat.le_of_ble_eq_true rfl)) dX3_init_42 ⟨Nat.le_of_ble_eq_true rfl, Nat.le_of_ble_eq_true rfl⟩) hS (fun q _ h => hFc q h) hFc (fun u t H locs ht hvm hw hB hz1 hk1 hS => ?_)
  obtain ⟨hP1, hK1, hD1⟩ := hB
  rw [ht] at hP1
  have hK1 := va_K.moved hvm.symm hK1
  obtain ⟨hP, hD⟩ := va_join (wr := [(h0, .inr (4, [.ref q_1, .ref q_3, .ref q_5, .null, .null, .int 0, .int 0, .int 0, .int 0, .int 0, .int 0, .int 0, .int 0])), (q_1, .inr (0, [.int 0, .ref z, .int 0])), (q_3, .inr (0, [.int 0, .ref z, .int 0])), (q_5, .inr (0, [.int 0, .ref z, .int 0]))]) (w1 := [(q_7, .inr (0, [.int 0, .ref z, .int 0]))]) hP hD [4] [0, 1, 2, 3] rfl rfl (by decide) (by decide) hk1 hFc hP1 hD1
  have hK := hK.app hK1
  have hK : va_K (dC, dI) vwCl [] s := hK
  have hP : va_P (dC, dI) vwCl [(h0, .inr (4, [.ref q_1, .ref q_3, .ref q_5, .null, .null, .int 0, .int 0, .int 0, .int 0, .int 0, .int 0, .int 0, .int 0])), (q_1, .inr (0, [.int 0, .ref z, .int 0])), (q_3, .inr (0, [.int 0, .ref z, .int 0])), (q_5, .inr (0, [.int 0, .ref z, .int 0])), (q_7, .inr (0, [.int 0, .ref z, .int 0]))] H := hP
  have hD : va_D A [(h0, .inr (4, [.ref q_1, .ref q_3, .ref q_5, .null, .null, .int 0, .int 0, .int 0, .int 0, .int 0, .int 0, .int 0, .int 0])), (q_1, .inr (0, [.int 0, .ref z, .int 0])), (q_3, .inr (0, [.int 0, .ref z, .int 0])), (q_5, .inr (0, [.int 0, .ref z, .int 0])), (q_7, .inr (0, [.int 0, .ref z, .int 0]))] := hD
  refine W.eq (g2 := F0 m 45 ls [.ref q_7, .ref h0]) rfl ?_
  refine va_putF (D := (dC, dI)) (ci := 4) (v := .ref q_7) (ty := .object "java/util/ArrayList") (C := RX3) (T := TX3) (N := 13) hx hb hts (fun _ h => List.mem_cons_of_mem _ (List.mem_append_right _ h)) tyX3 tyX3_ok nmX3 hown hK hP hD hS 0 rfl rfl 3 (by decide) (hts (.fieldLink RX3 22 "FrontDoor" "line" "Ljava/util/ArrayList;") (by decide +kernel)) (fun _ h9 => h9) rfl hin rfl (by decide +kernel) rfl rfl (Nat.le_of_ble_eq_true rfl) dX3_init_45 (fun H locs hP hD hS => ?_)
  have hP : va_P (dC, dI) vwCl [(h0, .inr (4, [.ref q_1, .ref q_3, .ref q_5, .ref q_7, .null, .int 0, .int 0, .int 0, .int 0, .int 0, .int 0, .int 0, .int 0])), (q_1, .inr (0, [.int 0, .ref z, .int 0])), (q_3, .inr (0, [.int 0, .ref z, .int 0])), (q_5, .inr (0, [.int 0, .ref z, .int 0])), (q_7, .inr (0, [.int 0, .ref z, .int 0]))] H := hP
  have hD : va_D A [(h0, .inr (4, [.ref q_1, .ref q_3, .ref q_5, .ref q_7, .null, .int 0, .int 0, .int 0, .int 0, .int 0, .int 0, .int 0, .int 0])), (q_1, .inr (0, [.int 0, .ref z, .int 0])), (q_3, .inr (0, [.int 0, .ref z, .int 0])), (q_5, .inr (0, [.int 0, .ref z, .int 0])), (q_7, .inr (0, [.int 0, .ref z, .int 0]))] := hD
  refine lv_aload_n hx hb dX3_init_48 rfl (lv_at hl 0 rfl) ?_
  refine lv_bipush (v := 7) hx hb dX3_init_49 (by decide) ?_
  refine va_newa (D := (dC, dI)) (cl := vwCl) (atype := .int) (ty := .int) (n := 7) (N' := 7) (a0 := (7, .inl (fun _ => 0))) hx hb (hts (.arrayClass .int) (by decide +kernel)) rfl hK hP hD hS hA (pz_aI 7) pz_n7 pz_c7 pz_bI7 (Nat.le_of_ble_eq_true rfl) (Nat.le_of_ble_eq_true rfl) dX3_init_51 (fun q_9 cA_9 H hK hP hD hS => ?_)
  sorry

set_option maxHeartbeats 800000 in
set_option maxRecDepth 100000 in
theorem c6 (l : Launch) (dC : Nat → ClassId) (dI : Nat → Nat → Nat) (h0 : Nat) (z : Nat) (sz : Nat) : Met l yX3_init wsX3_init ({ frames := 4, cells := 5, slots := 19, locals := 72 }) (va_Pc [.ref h0] (pzPreZ (dC, dI) vwCl [(h0, .inr (4, [.null, .null, .null, .null, .null, .int 0, .int 0, .int 0, .int 0, .int 0, .int 0, .int 0, .int 0]))] [] sz z)) (va_Qv (fun _ : Unit => True) (fun (_ : Unit) (t : State) => ∃ q1 : Nat, ∃ q2 : Nat, ∃ q3 : Nat, ∃ q4 : Nat, ∃ q5 : Nat, ∃ cI : ClassId, va_P (dC, dI) vwCl [(h0, .inr (4, [.ref q1, .ref q2, .ref q3, .ref q4, .ref q5, .int 0, .int 0, .int 3, .int 20, .int 0, .int 0, .int 0, .int 0])), (q1, .inr (0, [.int 0, .ref z, .int 0])), (q2, .inr (0, [.int 0, .ref z, .int 0])), (q3, .inr (0, [.int 0, .ref z, .int 0])), (q4, .inr (0, [.int 0, .ref z, .int 0])), (q5, .inl (cI, 7, .inl (fun _ => 0)))] t.heap ∧ va_K (dC, dI) vwCl [(cI, .int)] t ∧ va_D (va_A [(h0, .inr (4, [.null, .null, .null, .null, .null, .int 0, .int 0, .int 0, .int 0, .int 0, .int 0, .int 0, .int 0]))] sz) [(h0, .inr (4, [.ref q1, .ref q2, .ref q3, .ref q4, .ref q5, .int 0, .int 0, .int 3, .int 20, .int 0, .int 0, .int 0, .int 0])), (q1, .inr (0, [.int 0, .ref z, .int 0])), (q2, .inr (0, [.int 0, .ref z, .int 0])), (q3, .inr (0, [.int 0, .ref z, .int 0])), (q4, .inr (0, [.int 0, .ref z, .int 0])), (q5, .inl (cI, 7, .inl (fun _ => 0)))]) (va_A [(h0, .inr (4, [.null, .null, .null, .null, .null, .int 0, .int 0, .int 0, .int 0, .int 0, .int 0, .int 0, .int 0]))] sz)) 5 19 (va_A [(h0, .inr (4, [.null, .null, .null, .null, .null, .int 0, .int 0, .int 0, .int 0, .int 0, .int 0, .int 0, .int 0]))] sz) := by
  refine Met.ofW (cc := cX3_init) (maxL := 1) (ret := none) (by decide) rfl ?_
  intro p e s m args below meth c s₁ B hml hv
  obtain ⟨rfl, ⟨hsz, hP, hK, hD0⟩, hZ⟩ := hv
  have hx := B.exec
  have hb := B.bytes
  have hr := B.returns
  have hts := atoms_spec (ws := wsX3_init) B.pre
  have hown : s.vm.findClass RX3 = some m.cls := findClass_of_methodNamed B.named
  have hlocks := B.notSynchronized
  have hin : meth.name = "<init>" := (name_of_methodNamed B.named B.method).1
  subst hsz
  have hD := hD0.self (sz := s.heap.size)
  generalize hAe : va_A [(h0, .inr (4, [.null, .null, .null, .null, .null, .int 0, .int 0, .int 0, .int 0, .int 0, .int 0, .int 0, .int 0]))] s.heap.size = A at hD hZ ⊢
  have hA : ∀ q : Nat, s.heap.size ≤ q → A q := fun q h => by rw [← hAe]; exact Or.inr h
  have hS : va_S A s.heap s.heap [] := va_S.rf
  have hP : va_P (dC, dI) vwCl [(h0, .inr (4, [.null, .null, .null, .null, .null, .int 0, .int 0, .int 0, .int 0, .int 0, .int 0, .int 0, .int 0]))] s.heap := hP
  have hl := lv_entry ([.ref h0]) (n := 1) (Nat.le_of_ble_eq_true rfl)
  rw [lg_entry_eq]
  generalize (lg_sl ([.ref h0]) ++ List.replicate (1 - (lg_sl ([.ref h0])).length) Slot.unset).toArray = ls at hl ⊢
  have hl : lv_has ls 1 [(0, .ref h0)] := hl
  refine lv_aload_n hx hb dX3_init_0 rfl (lv_at hl 0 rfl) ?_
  refine W.objInit hx hb hown (hts (.methodLink RX3 1 objectInit) (by decide +kernel)) (hts (.instanceMethod objectInit) (by decide +kernel)) (hts (.code objectInit ⟨#[0xb1]⟩ 1 none) (by decide +kernel)) rfl (by rw [hml]; exact hl.1) rfl dX3_init_1 (Nat.le_of_ble_eq_true rfl) (Nat.le_of_ble_eq_true rfl) ?_
  refine W.eq (g2 := F0 m 4 ls []) rfl ?_
  refine lv_aload_n hx hb dX3_init_4 rfl (lv_at hl 0 rfl) ?_
  refine va_new (ci := 0) (fs := [.int 0, .null, .int 0]) (C := RJx4a65c) (T := TJx4a65c) (N := 3) hx hb hts (fun _ h => List.mem_cons_of_mem _ (List.mem_append_left _ (List.mem_append_right _ h))) tyJx4a65c tyJx4a65c_ok hown (hts (.classLink RX3 7 RJx4a65c) (by decide +kernel)) (hts (.instantiable RJx4a65c 3) (by decide +kernel)) (hts (.initialized RJx4a65c) (by decide +kernel)) hK hP hD hS hA rfl (fun j hj => match j, hj with | 0, _ => rfl | 1, _ => rfl | 2, _ => rfl | z9 + 3, h9 => absurd h9 (by omega)) (Nat.le_of_ble_eq_true rfl) (Nat.le_of_ble_eq_true rfl) dX3_init_5 (fun q_1 H hP hD hS => ?_)
  have hP : va_P (dC, dI) vwCl [(h0, .inr (4, [.null, .null, .null, .null, .null, .int 0, .int 0, .int 0, .int 0, .int 0, .int 0, .int 0, .int 0])), (q_1, .inr (0, [.int 0, .null, .int 0]))] H := hP
  have hD : va_D A [(h0, .inr (4, [.null, .null, .null, .null, .null, .int 0, .int 0, .int 0, .int 0, .int 0, .int 0, .int 0, .int 0])), (q_1, .inr (0, [.int 0, .null, .int 0]))] := hD
  refine W.widen (k := 1) (n := 3) (Nat.le_refl 1) (Nat.le_refl 3) ?_
  refine lv_dup hx hb dX3_init_8 rfl ?_
  have hPc := hP.sub (ws' := [(q_1, .inr (0, [.int 0, .null, .int 0]))]) [1] rfl
  have hDc := hD.sub (ws' := [(q_1, .inr (0, [.int 0, .null, .int 0]))]) [1] (by decide) rfl
  have hKc := hK.sub (tys' := []) [] rfl
  have hFc := va_free (wc := [(q_1, .inr (0, [.int 0, .null, .int 0]))]) hD hS hA [1] rfl
  refine va_callv (va_runI (As := []) (rest := [.ref q_1, .ref h0]) ⟨hx, hb, hml, hown, hts⟩ (k_Jx4a65c_init_da8c8 l dC dI q_1 z H.size) (cwI 0 hts gX3_init_Jx4a65c_init_da8c8 rfl rfl rfl (hts (.initialized RJx4a65c) (by decide +kernel)) (hts (.methodLink RX3 9 yJx4a65c_init_da8c8) (by decide +kernel)) (hts (.instanceMethod yJx4a65c_init_da8c8) (by decide +kernel)) rfl (by decide +kernel) ⟨Nat.le_of_ble_eq_true rfl, Nat.le_of_ble_eq_true rfl⟩) ⟨pz_blindZ, fun U hU hW => ⟨rfl, ⟨pz_at hPc hKc hDc hU hW, pz_Zat hZ hS hFc hU hW⟩⟩⟩ rfl rfl hl.1 rfl (lv_room (Nat.le_of_ble_eq_true rfl)) dX3_init_9 ⟨Nat.le_of_ble_eq_true rfl, Nat.le_of_ble_eq_true rfl⟩) hS (fun q _ h => hFc q h) hFc (fun u t H locs ht hvm hw hB hz1 hk1 hS => ?_)
  obtain ⟨hP1, hK1, hD1⟩ := hB
  rw [ht] at hP1
  have hK1 := va_K.moved hvm.symm hK1
  obtain ⟨hP, hD⟩ := va_join (wr := [(h0, .inr (4, [.null, .null, .null, .null, .null, .int 0, .int 0, .int 0, .int 0, .int 0, .int 0, .int 0, .int 0]))]) (w1 := [(q_1, .inr (0, [.int 0, .ref z, .int 0]))]) hP hD [1] [0] rfl rfl (by decide) (by decide) hk1 hFc hP1 hD1
  have hK := hK.app hK1
  have hK : va_K (dC, dI) vwCl [] s := hK
  have hP : va_P (dC, dI) vwCl [(h0, .inr (4, [.null, .null, .null, .null, .null, .int 0, .int 0, .int 0, .int 0, .int 0, .int 0, .int 0, .int 0])), (q_1, .inr (0, [.int 0, .ref z, .int 0]))] H := hP
  have hD : va_D A [(h0, .inr (4, [.null, .null, .null, .null, .null, .int 0, .int 0, .int 0, .int 0, .int 0, .int 0, .int 0, .int 0])), (q_1, .inr (0, [.int 0, .ref z, .int 0]))] := hD
  refine W.eq (g2 := F0 m 12 ls [.ref q_1, .ref h0]) rfl ?_
  refine va_putF (D := (dC, dI)) (ci := 4) (v := .ref q_1) (ty := .object "java/util/ArrayList") (C := RX3) (T := TX3) (N := 13) hx hb hts (fun _ h => List.mem_cons_of_mem _ (List.mem_append_right _ h)) tyX3 tyX3_ok nmX3 hown hK hP hD hS 0 rfl rfl 0 (by decide) (hts (.fieldLink RX3 10 "FrontDoor" "servers" "Ljava/util/ArrayList;") (by decide +kernel)) (fun _ h9 => h9) rfl hin rfl (by decide +kernel) rfl rfl (Nat.le_of_ble_eq_true rfl) dX3_init_12 (fun H locs hP hD hS => ?_)
  have hP : va_P (dC, dI) vwCl [(h0, .inr (4, [.ref q_1, .null, .null, .null, .null, .int 0, .int 0, .int 0, .int 0, .int 0, .int 0, .int 0, .int 0])), (q_1, .inr (0, [.int 0, .ref z, .int 0]))] H := hP
  have hD : va_D A [(h0, .inr (4, [.ref q_1, .null, .null, .null, .null, .int 0, .int 0, .int 0, .int 0, .int 0, .int 0, .int 0, .int 0])), (q_1, .inr (0, [.int 0, .ref z, .int 0]))] := hD
  refine lv_aload_n hx hb dX3_init_15 rfl (lv_at hl 0 rfl) ?_
  refine va_new (ci := 0) (fs := [.int 0, .null, .int 0]) (C := RJx4a65c) (T := TJx4a65c) (N := 3) hx hb hts (fun _ h => List.mem_cons_of_mem _ (List.mem_append_left _ (List.mem_append_right _ h))) tyJx4a65c tyJx4a65c_ok hown (hts (.classLink RX3 7 RJx4a65c) (by decide +kernel)) (hts (.instantiable RJx4a65c 3) (by decide +kernel)) (hts (.initialized RJx4a65c) (by decide +kernel)) hK hP hD hS hA rfl (fun j hj => match j, hj with | 0, _ => rfl | 1, _ => rfl | 2, _ => rfl | z9 + 3, h9 => absurd h9 (by omega)) (Nat.le_of_ble_eq_true rfl) (Nat.le_of_ble_eq_true rfl) dX3_init_16 (fun q_3 H hP hD hS => ?_)
  have hP : va_P (dC, dI) vwCl [(h0, .inr (4, [.ref q_1, .null, .null, .null, .null, .int 0, .int 0, .int 0, .int 0, .int 0, .int 0, .int 0, .int 0])), (q_1, .inr (0, [.int 0, .ref z, .int 0])), (q_3, .inr (0, [.int 0, .null, .int 0]))] H := hP
  have hD : va_D A [(h0, .inr (4, [.ref q_1, .null, .null, .null, .null, .int 0, .int 0, .int 0, .int 0, .int 0, .int 0, .int 0, .int 0])), (q_1, .inr (0, [.int 0, .ref z, .int 0])), (q_3, .inr (0, [.int 0, .null, .int 0]))] := hD
  refine W.widen (k := 2) (n := 6) (Nat.le_refl 2) (Nat.le_refl 6) ?_
  refine lv_dup hx hb dX3_init_19 rfl ?_
  have hPc := hP.sub (ws' := [(q_3, .inr (0, [.int 0, .null, .int 0]))]) [2] rfl
  have hDc := hD.sub (ws' := [(q_3, .inr (0, [.int 0, .null, .int 0]))]) [2] (by decide) rfl
  have hKc := hK.sub (tys' := []) [] rfl
  have hFc := va_free (wc := [(q_3, .inr (0, [.int 0, .null, .int 0]))]) hD hS hA [2] rfl
  refine va_callv (va_runI (As := []) (rest := [.ref q_3, .ref h0]) ⟨hx, hb, hml, hown, hts⟩ (k_Jx4a65c_init_da8c8 l dC dI q_3 z H.size) (cwI 0 hts gX3_init_Jx4a65c_init_da8c8 rfl rfl rfl (hts (.initialized RJx4a65c) (by decide +kernel)) (hts (.methodLink RX3 9 yJx4a65c_init_da8c8) (by decide +kernel)) (hts (.instanceMethod yJx4a65c_init_da8c8) (by decide +kernel)) rfl (by decide +kernel) ⟨Nat.le_of_ble_eq_true rfl, Nat.le_of_ble_eq_true rfl⟩) ⟨pz_blindZ, fun U hU hW => ⟨rfl, ⟨pz_at hPc hKc hDc hU hW, pz_Zat hZ hS hFc hU hW⟩⟩⟩ rfl rfl hl.1 rfl (lv_room (Nat.le_of_ble_eq_true rfl)) dX3_init_20 ⟨Nat.le_of_ble_eq_true rfl, Nat.le_of_ble_eq_true rfl⟩) hS (fun q _ h => hFc q h) hFc (fun u t H locs ht hvm hw hB hz1 hk1 hS => ?_)
  obtain ⟨hP1, hK1, hD1⟩ := hB
  rw [ht] at hP1
  have hK1 := va_K.moved hvm.symm hK1
  obtain ⟨hP, hD⟩ := va_join (wr := [(h0, .inr (4, [.ref q_1, .null, .null, .null, .null, .int 0, .int 0, .int 0, .int 0, .int 0, .int 0, .int 0, .int 0])), (q_1, .inr (0, [.int 0, .ref z, .int 0]))]) (w1 := [(q_3, .inr (0, [.int 0, .ref z, .int 0]))]) hP hD [2] [0, 1] rfl rfl (by decide) (by decide) hk1 hFc hP1 hD1
  have hK := hK.app hK1
  have hK : va_K (dC, dI) vwCl [] s := hK
  have hP : va_P (dC, dI) vwCl [(h0, .inr (4, [.ref q_1, .null, .null, .null, .null, .int 0, .int 0, .int 0, .int 0, .int 0, .int 0, .int 0, .int 0])), (q_1, .inr (0, [.int 0, .ref z, .int 0])), (q_3, .inr (0, [.int 0, .ref z, .int 0]))] H := hP
  have hD : va_D A [(h0, .inr (4, [.ref q_1, .null, .null, .null, .null, .int 0, .int 0, .int 0, .int 0, .int 0, .int 0, .int 0, .int 0])), (q_1, .inr (0, [.int 0, .ref z, .int 0])), (q_3, .inr (0, [.int 0, .ref z, .int 0]))] := hD
  refine W.eq (g2 := F0 m 23 ls [.ref q_3, .ref h0]) rfl ?_
  refine va_putF (D := (dC, dI)) (ci := 4) (v := .ref q_3) (ty := .object "java/util/ArrayList") (C := RX3) (T := TX3) (N := 13) hx hb hts (fun _ h => List.mem_cons_of_mem _ (List.mem_append_right _ h)) tyX3 tyX3_ok nmX3 hown hK hP hD hS 0 rfl rfl 1 (by decide) (hts (.fieldLink RX3 16 "FrontDoor" "calls" "Ljava/util/ArrayList;") (by decide +kernel)) (fun _ h9 => h9) rfl hin rfl (by decide +kernel) rfl rfl (Nat.le_of_ble_eq_true rfl) dX3_init_23 (fun H locs hP hD hS => ?_)
  have hP : va_P (dC, dI) vwCl [(h0, .inr (4, [.ref q_1, .ref q_3, .null, .null, .null, .int 0, .int 0, .int 0, .int 0, .int 0, .int 0, .int 0, .int 0])), (q_1, .inr (0, [.int 0, .ref z, .int 0])), (q_3, .inr (0, [.int 0, .ref z, .int 0]))] H := hP
  have hD : va_D A [(h0, .inr (4, [.ref q_1, .ref q_3, .null, .null, .null, .int 0, .int 0, .int 0, .int 0, .int 0, .int 0, .int 0, .int 0])), (q_1, .inr (0, [.int 0, .ref z, .int 0])), (q_3, .inr (0, [.int 0, .ref z, .int 0]))] := hD
  refine lv_aload_n hx hb dX3_init_26 rfl (lv_at hl 0 rfl) ?_
  refine va_new (ci := 0) (fs := [.int 0, .null, .int 0]) (C := RJx4a65c) (T := TJx4a65c) (N := 3) hx hb hts (fun _ h => List.mem_cons_of_mem _ (List.mem_append_left _ (List.mem_append_right _ h))) tyJx4a65c tyJx4a65c_ok hown (hts (.classLink RX3 7 RJx4a65c) (by decide +kernel)) (hts (.instantiable RJx4a65c 3) (by decide +kernel)) (hts (.initialized RJx4a65c) (by decide +kernel)) hK hP hD hS hA rfl (fun j hj => match j, hj with | 0, _ => rfl | 1, _ => rfl | 2, _ => rfl | z9 + 3, h9 => absurd h9 (by omega)) (Nat.le_of_ble_eq_true rfl) (Nat.le_of_ble_eq_true rfl) dX3_init_27 (fun q_5 H hP hD hS => ?_)
  have hP : va_P (dC, dI) vwCl [(h0, .inr (4, [.ref q_1, .ref q_3, .null, .null, .null, .int 0, .int 0, .int 0, .int 0, .int 0, .int 0, .int 0, .int 0])), (q_1, .inr (0, [.int 0, .ref z, .int 0])), (q_3, .inr (0, [.int 0, .ref z, .int 0])), (q_5, .inr (0, [.int 0, .null, .int 0]))] H := hP
  have hD : va_D A [(h0, .inr (4, [.ref q_1, .ref q_3, .null, .null, .null, .int 0, .int 0, .int 0, .int 0, .int 0, .int 0, .int 0, .int 0])), (q_1, .inr (0, [.int 0, .ref z, .int 0])), (q_3, .inr (0, [.int 0, .ref z, .int 0])), (q_5, .inr (0, [.int 0, .null, .int 0]))] := hD
  refine W.widen (k := 3) (n := 9) (Nat.le_refl 3) (Nat.le_refl 9) ?_
  refine lv_dup hx hb dX3_init_30 rfl ?_
  have hPc := hP.sub (ws' := [(q_5, .inr (0, [.int 0, .null, .int 0]))]) [3] rfl
  have hDc := hD.sub (ws' := [(q_5, .inr (0, [.int 0, .null, .int 0]))]) [3] (by decide) rfl
  have hKc := hK.sub (tys' := []) [] rfl
  have hFc := va_free (wc := [(q_5, .inr (0, [.int 0, .null, .int 0]))]) hD hS hA [3] rfl
  refine va_callv (va_runI (As := []) (rest := [.ref q_5, .ref h0]) ⟨hx, hb, hml, hown, hts⟩ (k_Jx4a65c_init_da8c8 l dC dI q_5 z H.size) (cwI 0 hts gX3_init_Jx4a65c_init_da8c8 rfl rfl rfl (hts (.initialized RJx4a65c) (by decide +kernel)) (hts (.methodLink RX3 9 yJx4a65c_init_da8c8) (by decide +kernel)) (hts (.instanceMethod yJx4a65c_init_da8c8) (by decide +kernel)) rfl (by decide +kernel) ⟨Nat.le_of_ble_eq_true rfl, Nat.le_of_ble_eq_true rfl⟩) ⟨pz_blindZ, fun U hU hW => ⟨rfl, ⟨pz_at hPc hKc hDc hU hW, pz_Zat hZ hS hFc hU hW⟩⟩⟩ rfl rfl hl.1 rfl (lv_room (Nat.le_of_ble_eq_true rfl)) dX3_init_31 ⟨Nat.le_of_ble_eq_true rfl, Nat.le_of_ble_eq_true rfl⟩) hS (fun q _ h => hFc q h) hFc (fun u t H locs ht hvm hw hB hz1 hk1 hS => ?_)
  obtain ⟨hP1, hK1, hD1⟩ := hB
  rw [ht] at hP1
  have hK1 := va_K.moved hvm.symm hK1
  obtain ⟨hP, hD⟩ := va_join (wr := [(h0, .inr (4, [.ref q_1, .ref q_3, .null, .null, .null, .int 0, .int 0, .int 0, .int 0, .int 0, .int 0, .int 0, .int 0])), (q_1, .inr (0, [.int 0, .ref z, .int 0])), (q_3, .inr (0, [.int 0, .ref z, .int 0]))]) (w1 := [(q_5, .inr (0, [.int 0, .ref z, .int 0]))]) hP hD [3] [0, 1, 2] rfl rfl (by decide) (by decide) hk1 hFc hP1 hD1
  have hK := hK.app hK1
  have hK : va_K (dC, dI) vwCl [] s := hK
  have hP : va_P (dC, dI) vwCl [(h0, .inr (4, [.ref q_1, .ref q_3, .null, .null, .null, .int 0, .int 0, .int 0, .int 0, .int 0, .int 0, .int 0, .int 0])), (q_1, .inr (0, [.int 0, .ref z, .int 0])), (q_3, .inr (0, [.int 0, .ref z, .int 0])), (q_5, .inr (0, [.int 0, .ref z, .int 0]))] H := hP
  have hD : va_D A [(h0, .inr (4, [.ref q_1, .ref q_3, .null, .null, .null, .int 0, .int 0, .int 0, .int 0, .int 0, .int 0, .int 0, .int 0])), (q_1, .inr (0, [.int 0, .ref z, .int 0])), (q_3, .inr (0, [.int 0, .ref z, .int 0])), (q_5, .inr (0, [.int 0, .ref z, .int 0]))] := hD
  refine W.eq (g2 := F0 m 34 ls [.ref q_5, .ref h0]) rfl ?_
  refine va_putF (D := (dC, dI)) (ci := 4) (v := .ref q_5) (ty := .object "java/util/ArrayList") (C := RX3) (T := TX3) (N := 13) hx hb hts (fun _ h => List.mem_cons_of_mem _ (List.mem_append_right _ h)) tyX3 tyX3_ok nmX3 hown hK hP hD hS 0 rfl rfl 2 (by decide) (hts (.fieldLink RX3 19 "FrontDoor" "live" "Ljava/util/ArrayList;") (by decide +kernel)) (fun _ h9 => h9) rfl hin rfl (by decide +kernel) rfl rfl (Nat.le_of_ble_eq_true rfl) dX3_init_34 (fun H locs hP hD hS => ?_)
  have hP : va_P (dC, dI) vwCl [(h0, .inr (4, [.ref q_1, .ref q_3, .ref q_5, .null, .null, .int 0, .int 0, .int 0, .int 0, .int 0, .int 0, .int 0, .int 0])), (q_1, .inr (0, [.int 0, .ref z, .int 0])), (q_3, .inr (0, [.int 0, .ref z, .int 0])), (q_5, .inr (0, [.int 0, .ref z, .int 0]))] H := hP
  have hD : va_D A [(h0, .inr (4, [.ref q_1, .ref q_3, .ref q_5, .null, .null, .int 0, .int 0, .int 0, .int 0, .int 0, .int 0, .int 0, .int 0])), (q_1, .inr (0, [.int 0, .ref z, .int 0])), (q_3, .inr (0, [.int 0, .ref z, .int 0])), (q_5, .inr (0, [.int 0, .ref z, .int 0]))] := hD
  refine lv_aload_n hx hb dX3_init_37 rfl (lv_at hl 0 rfl) ?_
  refine va_new (ci := 0) (fs := [.int 0, .null, .int 0]) (C := RJx4a65c) (T := TJx4a65c) (N := 3) hx hb hts (fun _ h => List.mem_cons_of_mem _ (List.mem_append_left _ (List.mem_append_right _ h))) tyJx4a65c tyJx4a65c_ok hown (hts (.classLink RX3 7 RJx4a65c) (by decide +kernel)) (hts (.instantiable RJx4a65c 3) (by decide +kernel)) (hts (.initialized RJx4a65c) (by decide +kernel)) hK hP hD hS hA rfl (fun j hj => match j, hj with | 0, _ => rfl | 1, _ => rfl | 2, _ => rfl | z9 + 3, h9 => absurd h9 (by omega)) (Nat.le_of_ble_eq_true rfl) (Nat.le_of_ble_eq_true rfl) dX3_init_38 (fun q_7 H hP hD hS => ?_)
  have hP : va_P (dC, dI) vwCl [(h0, .inr (4, [.ref q_1, .ref q_3, .ref q_5, .null, .null, .int 0, .int 0, .int 0, .int 0, .int 0, .int 0, .int 0, .int 0])), (q_1, .inr (0, [.int 0, .ref z, .int 0])), (q_3, .inr (0, [.int 0, .ref z, .int 0])), (q_5, .inr (0, [.int 0, .ref z, .int 0])), (q_7, .inr (0, [.int 0, .null, .int 0]))] H := hP
  have hD : va_D A [(h0, .inr (4, [.ref q_1, .ref q_3, .ref q_5, .null, .null, .int 0, .int 0, .int 0, .int 0, .int 0, .int 0, .int 0, .int 0])), (q_1, .inr (0, [.int 0, .ref z, .int 0])), (q_3, .inr (0, [.int 0, .ref z, .int 0])), (q_5, .inr (0, [.int 0, .ref z, .int 0])), (q_7, .inr (0, [.int 0, .null, .int 0]))] := hD
  refine W.widen (k := 4) (n := 12) (Nat.le_refl 4) (Nat.le_refl 12) ?_
  refine lv_dup hx hb dX3_init_41 rfl ?_
  have hPc := hP.sub (ws' := [(q_7, .inr (0, [.int 0, .null, .int 0]))]) [4] rfl
  have hDc := hD.sub (ws' := [(q_7, .inr (0, [.int 0, .null, .int 0]))]) [4] (by decide) rfl
  have hKc := hK.sub (tys' := []) [] rfl
  have hFc := va_free (wc := [(q_7, .inr (0, [.int 0, .null, .int 0]))]) hD hS hA [4] rfl
  refine va_callv (va_runI (As := []) (rest := [.ref q_7, .ref h0]) ⟨hx, hb, hml, hown, hts⟩ (k_Jx4a65c_init_da8c8 l dC dI q_7 z H.size) (cwI 0 hts gX3_init_Jx4a65c_init_da8c8 rfl rfl rfl (hts (.initialized RJx4a65c) (by decide +kernel)) (hts (.methodLink RX3 9 yJx4a65c_init_da8c8) (by decide +kernel)) (hts (.instanceMethod yJx4a65c_init_da8c8) (by decide +kernel)) rfl (by decide +kernel) ⟨Nat.le_of_ble_eq_true rfl, Nat.le_of_ble_eq_true rfl⟩) ⟨pz_blindZ, fun U hU hW => ⟨rfl, ⟨pz_at hPc hKc hDc hU hW, pz_Zat hZ hS hFc hU hW⟩⟩⟩ rfl rfl hl.1 rfl (lv_room (Nat.le_of_ble_eq_true rfl)) dX3_init_42 ⟨Nat.le_of_ble_eq_true rfl, Nat.le_of_ble_eq_true rfl⟩) hS (fun q _ h => hFc q h) hFc (fun u t H locs ht hvm hw hB hz1 hk1 hS => ?_)
  obtain ⟨hP1, hK1, hD1⟩ := hB
  rw [ht] at hP1
  have hK1 := va_K.moved hvm.symm hK1
  obtain ⟨hP, hD⟩ := va_join (wr := [(h0, .inr (4, [.ref q_1, .ref q_3, .ref q_5, .null, .null, .int 0, .int 0, .int 0, .int 0, .int 0, .int 0, .int 0, .int 0])), (q_1, .inr (0, [.int 0, .ref z, .int 0])), (q_3, .inr (0, [.int 0, .ref z, .int 0])), (q_5, .inr (0, [.int 0, .ref z, .int 0]))]) (w1 := [(q_7, .inr (0, [.int 0, .ref z, .int 0]))]) hP hD [4] [0, 1, 2, 3] rfl rfl (by decide) (by decide) hk1 hFc hP1 hD1
  have hK := hK.app hK1
  have hK : va_K (dC, dI) vwCl [] s := hK
  have hP : va_P (dC, dI) vwCl [(h0, .inr (4, [.ref q_1, .ref q_3, .ref q_5, .null, .null, .int 0, .int 0, .int 0, .int 0, .int 0, .int 0, .int 0, .int 0])), (q_1, .inr (0, [.int 0, .ref z, .int 0])), (q_3, .inr (0, [.int 0, .ref z, .int 0])), (q_5, .inr (0, [.int 0, .ref z, .int 0])), (q_7, .inr (0, [.int 0, .ref z, .int 0]))] H := hP
  have hD : va_D A [(h0, .inr (4, [.ref q_1, .ref q_3, .ref q_5, .null, .null, .int 0, .int 0, .int 0, .int 0, .int 0, .int 0, .int 0, .int 0])), (q_1, .inr (0, [.int 0, .ref z, .int 0])), (q_3, .inr (0, [.int 0, .ref z, .int 0])), (q_5, .inr (0, [.int 0, .ref z, .int 0])), (q_7, .inr (0, [.int 0, .ref z, .int 0]))] := hD
  refine W.eq (g2 := F0 m 45 ls [.ref q_7, .ref h0]) rfl ?_
  refine va_putF (D := (dC, dI)) (ci := 4) (v := .ref q_7) (ty := .object "java/util/ArrayList") (C := RX3) (T := TX3) (N := 13) hx hb hts (fun _ h => List.mem_cons_of_mem _ (List.mem_append_right _ h)) tyX3 tyX3_ok nmX3 hown hK hP hD hS 0 rfl rfl 3 (by decide) (hts (.fieldLink RX3 22 "FrontDoor" "line" "Ljava/util/ArrayList;") (by decide +kernel)) (fun _ h9 => h9) rfl hin rfl (by decide +kernel) rfl rfl (Nat.le_of_ble_eq_true rfl) dX3_init_45 (fun H locs hP hD hS => ?_)
  have hP : va_P (dC, dI) vwCl [(h0, .inr (4, [.ref q_1, .ref q_3, .ref q_5, .ref q_7, .null, .int 0, .int 0, .int 0, .int 0, .int 0, .int 0, .int 0, .int 0])), (q_1, .inr (0, [.int 0, .ref z, .int 0])), (q_3, .inr (0, [.int 0, .ref z, .int 0])), (q_5, .inr (0, [.int 0, .ref z, .int 0])), (q_7, .inr (0, [.int 0, .ref z, .int 0]))] H := hP
  have hD : va_D A [(h0, .inr (4, [.ref q_1, .ref q_3, .ref q_5, .ref q_7, .null, .int 0, .int 0, .int 0, .int 0, .int 0, .int 0, .int 0, .int 0])), (q_1, .inr (0, [.int 0, .ref z, .int 0])), (q_3, .inr (0, [.int 0, .ref z, .int 0])), (q_5, .inr (0, [.int 0, .ref z, .int 0])), (q_7, .inr (0, [.int 0, .ref z, .int 0]))] := hD
  refine lv_aload_n hx hb dX3_init_48 rfl (lv_at hl 0 rfl) ?_
  refine lv_bipush (v := 7) hx hb dX3_init_49 (by decide) ?_
  refine va_newa (D := (dC, dI)) (cl := vwCl) (atype := .int) (ty := .int) (n := 7) (N' := 7) (a0 := (7, .inl (fun _ => 0))) hx hb (hts (.arrayClass .int) (by decide +kernel)) rfl hK hP hD hS hA (pz_aI 7) pz_n7 pz_c7 pz_bI7 (show 4 + 1 ≤ 5 by decide) (show 12 + 7 ≤ 19 by decide) dX3_init_51 (fun q_9 cA_9 H hK hP hD hS => ?_)
  sorry

set_option maxHeartbeats 800000 in
set_option maxRecDepth 100000 in
theorem c7 (l : Launch) (dC : Nat → ClassId) (dI : Nat → Nat → Nat) (h0 : Nat) (z : Nat) (sz : Nat) : Met l yX3_init wsX3_init ({ frames := 4, cells := 5, slots := 19, locals := 72 }) (va_Pc [.ref h0] (pzPreZ (dC, dI) vwCl [(h0, .inr (4, [.null, .null, .null, .null, .null, .int 0, .int 0, .int 0, .int 0, .int 0, .int 0, .int 0, .int 0]))] [] sz z)) (va_Qv (fun _ : Unit => True) (fun (_ : Unit) (t : State) => ∃ q1 : Nat, ∃ q2 : Nat, ∃ q3 : Nat, ∃ q4 : Nat, ∃ q5 : Nat, ∃ cI : ClassId, va_P (dC, dI) vwCl [(h0, .inr (4, [.ref q1, .ref q2, .ref q3, .ref q4, .ref q5, .int 0, .int 0, .int 3, .int 20, .int 0, .int 0, .int 0, .int 0])), (q1, .inr (0, [.int 0, .ref z, .int 0])), (q2, .inr (0, [.int 0, .ref z, .int 0])), (q3, .inr (0, [.int 0, .ref z, .int 0])), (q4, .inr (0, [.int 0, .ref z, .int 0])), (q5, .inl (cI, 7, .inl (fun _ => 0)))] t.heap ∧ va_K (dC, dI) vwCl [(cI, .int)] t ∧ va_D (va_A [(h0, .inr (4, [.null, .null, .null, .null, .null, .int 0, .int 0, .int 0, .int 0, .int 0, .int 0, .int 0, .int 0]))] sz) [(h0, .inr (4, [.ref q1, .ref q2, .ref q3, .ref q4, .ref q5, .int 0, .int 0, .int 3, .int 20, .int 0, .int 0, .int 0, .int 0])), (q1, .inr (0, [.int 0, .ref z, .int 0])), (q2, .inr (0, [.int 0, .ref z, .int 0])), (q3, .inr (0, [.int 0, .ref z, .int 0])), (q4, .inr (0, [.int 0, .ref z, .int 0])), (q5, .inl (cI, 7, .inl (fun _ => 0)))]) (va_A [(h0, .inr (4, [.null, .null, .null, .null, .null, .int 0, .int 0, .int 0, .int 0, .int 0, .int 0, .int 0, .int 0]))] sz)) 5 19 (va_A [(h0, .inr (4, [.null, .null, .null, .null, .null, .int 0, .int 0, .int 0, .int 0, .int 0, .int 0, .int 0, .int 0]))] sz) := by
  refine Met.ofW (cc := cX3_init) (maxL := 1) (ret := none) (by decide) rfl ?_
  intro p e s m args below meth c s₁ B hml hv
  obtain ⟨rfl, ⟨hsz, hP, hK, hD0⟩, hZ⟩ := hv
  have hx := B.exec
  have hb := B.bytes
  have hr := B.returns
  have hts := atoms_spec (ws := wsX3_init) B.pre
  have hown : s.vm.findClass RX3 = some m.cls := findClass_of_methodNamed B.named
  have hlocks := B.notSynchronized
  have hin : meth.name = "<init>" := (name_of_methodNamed B.named B.method).1
  subst hsz
  have hD := hD0.self (sz := s.heap.size)
  generalize hAe : va_A [(h0, .inr (4, [.null, .null, .null, .null, .null, .int 0, .int 0, .int 0, .int 0, .int 0, .int 0, .int 0, .int 0]))] s.heap.size = A at hD hZ ⊢
  have hA : ∀ q : Nat, s.heap.size ≤ q → A q := fun q h => by rw [← hAe]; exact Or.inr h
  have hS : va_S A s.heap s.heap [] := va_S.rf
  have hP : va_P (dC, dI) vwCl [(h0, .inr (4, [.null, .null, .null, .null, .null, .int 0, .int 0, .int 0, .int 0, .int 0, .int 0, .int 0, .int 0]))] s.heap := hP
  have hl := lv_entry ([.ref h0]) (n := 1) (Nat.le_of_ble_eq_true rfl)
  rw [lg_entry_eq]
  generalize (lg_sl ([.ref h0]) ++ List.replicate (1 - (lg_sl ([.ref h0])).length) Slot.unset).toArray = ls at hl ⊢
  have hl : lv_has ls 1 [(0, .ref h0)] := hl
  refine lv_aload_n hx hb dX3_init_0 rfl (lv_at hl 0 rfl) ?_
  refine W.objInit hx hb hown (hts (.methodLink RX3 1 objectInit) (by decide +kernel)) (hts (.instanceMethod objectInit) (by decide +kernel)) (hts (.code objectInit ⟨#[0xb1]⟩ 1 none) (by decide +kernel)) rfl (by rw [hml]; exact hl.1) rfl dX3_init_1 (Nat.le_of_ble_eq_true rfl) (Nat.le_of_ble_eq_true rfl) ?_
  refine W.eq (g2 := F0 m 4 ls []) rfl ?_
  refine lv_aload_n hx hb dX3_init_4 rfl (lv_at hl 0 rfl) ?_
  refine va_new (ci := 0) (fs := [.int 0, .null, .int 0]) (C := RJx4a65c) (T := TJx4a65c) (N := 3) hx hb hts (fun _ h => List.mem_cons_of_mem _ (List.mem_append_left _ (List.mem_append_right _ h))) tyJx4a65c tyJx4a65c_ok hown (hts (.classLink RX3 7 RJx4a65c) (by decide +kernel)) (hts (.instantiable RJx4a65c 3) (by decide +kernel)) (hts (.initialized RJx4a65c) (by decide +kernel)) hK hP hD hS hA rfl (fun j hj => match j, hj with | 0, _ => rfl | 1, _ => rfl | 2, _ => rfl | z9 + 3, h9 => absurd h9 (by omega)) (Nat.le_of_ble_eq_true rfl) (Nat.le_of_ble_eq_true rfl) dX3_init_5 (fun q_1 H hP hD hS => ?_)
  have hP : va_P (dC, dI) vwCl [(h0, .inr (4, [.null, .null, .null, .null, .null, .int 0, .int 0, .int 0, .int 0, .int 0, .int 0, .int 0, .int 0])), (q_1, .inr (0, [.int 0, .null, .int 0]))] H := hP
  have hD : va_D A [(h0, .inr (4, [.null, .null, .null, .null, .null, .int 0, .int 0, .int 0, .int 0, .int 0, .int 0, .int 0, .int 0])), (q_1, .inr (0, [.int 0, .null, .int 0]))] := hD
  refine W.widen (k := 1) (n := 3) (Nat.le_refl 1) (Nat.le_refl 3) ?_
  refine lv_dup hx hb dX3_init_8 rfl ?_
  have hPc := hP.sub (ws' := [(q_1, .inr (0, [.int 0, .null, .int 0]))]) [1] rfl
  have hDc := hD.sub (ws' := [(q_1, .inr (0, [.int 0, .null, .int 0]))]) [1] (by decide) rfl
  have hKc := hK.sub (tys' := []) [] rfl
  have hFc := va_free (wc := [(q_1, .inr (0, [.int 0, .null, .int 0]))]) hD hS hA [1] rfl
  refine va_callv (va_runI (As := []) (rest := [.ref q_1, .ref h0]) ⟨hx, hb, hml, hown, hts⟩ (k_Jx4a65c_init_da8c8 l dC dI q_1 z H.size) (cwI 0 hts gX3_init_Jx4a65c_init_da8c8 rfl rfl rfl (hts (.initialized RJx4a65c) (by decide +kernel)) (hts (.methodLink RX3 9 yJx4a65c_init_da8c8) (by decide +kernel)) (hts (.instanceMethod yJx4a65c_init_da8c8) (by decide +kernel)) rfl (by decide +kernel) ⟨Nat.le_of_ble_eq_true rfl, Nat.le_of_ble_eq_true rfl⟩) ⟨pz_blindZ, fun U hU hW => ⟨rfl, ⟨pz_at hPc hKc hDc hU hW, pz_Zat hZ hS hFc hU hW⟩⟩⟩ rfl rfl hl.1 rfl (lv_room (Nat.le_of_ble_eq_true rfl)) dX3_init_9 ⟨Nat.le_of_ble_eq_true rfl, Nat.le_of_ble_eq_true rfl⟩) hS (fun q _ h => hFc q h) hFc (fun u t H locs ht hvm hw hB hz1 hk1 hS => ?_)
  obtain ⟨hP1, hK1, hD1⟩ := hB
  rw [ht] at hP1
  have hK1 := va_K.moved hvm.symm hK1
  obtain ⟨hP, hD⟩ := va_join (wr := [(h0, .inr (4, [.null, .null, .null, .null, .null, .int 0, .int 0, .int 0, .int 0, .int 0, .int 0, .int 0, .int 0]))]) (w1 := [(q_1, .inr (0, [.int 0, .ref z, .int 0]))]) hP hD [1] [0] rfl rfl (by decide) (by decide) hk1 hFc hP1 hD1
  have hK := hK.app hK1
  have hK : va_K (dC, dI) vwCl [] s := hK
  have hP : va_P (dC, dI) vwCl [(h0, .inr (4, [.null, .null, .null, .null, .null, .int 0, .int 0, .int 0, .int 0, .int 0, .int 0, .int 0, .int 0])), (q_1, .inr (0, [.int 0, .ref z, .int 0]))] H := hP
  have hD : va_D A [(h0, .inr (4, [.null, .null, .null, .null, .null, .int 0, .int 0, .int 0, .int 0, .int 0, .int 0, .int 0, .int 0])), (q_1, .inr (0, [.int 0, .ref z, .int 0]))] := hD
  refine W.eq (g2 := F0 m 12 ls [.ref q_1, .ref h0]) rfl ?_
  refine va_putF (D := (dC, dI)) (ci := 4) (v := .ref q_1) (ty := .object "java/util/ArrayList") (C := RX3) (T := TX3) (N := 13) hx hb hts (fun _ h => List.mem_cons_of_mem _ (List.mem_append_right _ h)) tyX3 tyX3_ok nmX3 hown hK hP hD hS 0 rfl rfl 0 (by decide) (hts (.fieldLink RX3 10 "FrontDoor" "servers" "Ljava/util/ArrayList;") (by decide +kernel)) (fun _ h9 => h9) rfl hin rfl (by decide +kernel) rfl rfl (Nat.le_of_ble_eq_true rfl) dX3_init_12 (fun H locs hP hD hS => ?_)
  have hP : va_P (dC, dI) vwCl [(h0, .inr (4, [.ref q_1, .null, .null, .null, .null, .int 0, .int 0, .int 0, .int 0, .int 0, .int 0, .int 0, .int 0])), (q_1, .inr (0, [.int 0, .ref z, .int 0]))] H := hP
  have hD : va_D A [(h0, .inr (4, [.ref q_1, .null, .null, .null, .null, .int 0, .int 0, .int 0, .int 0, .int 0, .int 0, .int 0, .int 0])), (q_1, .inr (0, [.int 0, .ref z, .int 0]))] := hD
  refine lv_aload_n hx hb dX3_init_15 rfl (lv_at hl 0 rfl) ?_
  refine va_new (ci := 0) (fs := [.int 0, .null, .int 0]) (C := RJx4a65c) (T := TJx4a65c) (N := 3) hx hb hts (fun _ h => List.mem_cons_of_mem _ (List.mem_append_left _ (List.mem_append_right _ h))) tyJx4a65c tyJx4a65c_ok hown (hts (.classLink RX3 7 RJx4a65c) (by decide +kernel)) (hts (.instantiable RJx4a65c 3) (by decide +kernel)) (hts (.initialized RJx4a65c) (by decide +kernel)) hK hP hD hS hA rfl (fun j hj => match j, hj with | 0, _ => rfl | 1, _ => rfl | 2, _ => rfl | z9 + 3, h9 => absurd h9 (by omega)) (Nat.le_of_ble_eq_true rfl) (Nat.le_of_ble_eq_true rfl) dX3_init_16 (fun q_3 H hP hD hS => ?_)
  have hP : va_P (dC, dI) vwCl [(h0, .inr (4, [.ref q_1, .null, .null, .null, .null, .int 0, .int 0, .int 0, .int 0, .int 0, .int 0, .int 0, .int 0])), (q_1, .inr (0, [.int 0, .ref z, .int 0])), (q_3, .inr (0, [.int 0, .null, .int 0]))] H := hP
  have hD : va_D A [(h0, .inr (4, [.ref q_1, .null, .null, .null, .null, .int 0, .int 0, .int 0, .int 0, .int 0, .int 0, .int 0, .int 0])), (q_1, .inr (0, [.int 0, .ref z, .int 0])), (q_3, .inr (0, [.int 0, .null, .int 0]))] := hD
  refine W.widen (k := 2) (n := 6) (Nat.le_refl 2) (Nat.le_refl 6) ?_
  refine lv_dup hx hb dX3_init_19 rfl ?_
  have hPc := hP.sub (ws' := [(q_3, .inr (0, [.int 0, .null, .int 0]))]) [2] rfl
  have hDc := hD.sub (ws' := [(q_3, .inr (0, [.int 0, .null, .int 0]))]) [2] (by decide) rfl
  have hKc := hK.sub (tys' := []) [] rfl
  have hFc := va_free (wc := [(q_3, .inr (0, [.int 0, .null, .int 0]))]) hD hS hA [2] rfl
  refine va_callv (va_runI (As := []) (rest := [.ref q_3, .ref h0]) ⟨hx, hb, hml, hown, hts⟩ (k_Jx4a65c_init_da8c8 l dC dI q_3 z H.size) (cwI 0 hts gX3_init_Jx4a65c_init_da8c8 rfl rfl rfl (hts (.initialized RJx4a65c) (by decide +kernel)) (hts (.methodLink RX3 9 yJx4a65c_init_da8c8) (by decide +kernel)) (hts (.instanceMethod yJx4a65c_init_da8c8) (by decide +kernel)) rfl (by decide +kernel) ⟨Nat.le_of_ble_eq_true rfl, Nat.le_of_ble_eq_true rfl⟩) ⟨pz_blindZ, fun U hU hW => ⟨rfl, ⟨pz_at hPc hKc hDc hU hW, pz_Zat hZ hS hFc hU hW⟩⟩⟩ rfl rfl hl.1 rfl (lv_room (Nat.le_of_ble_eq_true rfl)) dX3_init_20 ⟨Nat.le_of_ble_eq_true rfl, Nat.le_of_ble_eq_true rfl⟩) hS (fun q _ h => hFc q h) hFc (fun u t H locs ht hvm hw hB hz1 hk1 hS => ?_)
  obtain ⟨hP1, hK1, hD1⟩ := hB
  rw [ht] at hP1
  have hK1 := va_K.moved hvm.symm hK1
  obtain ⟨hP, hD⟩ := va_join (wr := [(h0, .inr (4, [.ref q_1, .null, .null, .null, .null, .int 0, .int 0, .int 0, .int 0, .int 0, .int 0, .int 0, .int 0])), (q_1, .inr (0, [.int 0, .ref z, .int 0]))]) (w1 := [(q_3, .inr (0, [.int 0, .ref z, .int 0]))]) hP hD [2] [0, 1] rfl rfl (by decide) (by decide) hk1 hFc hP1 hD1
  have hK := hK.app hK1
  have hK : va_K (dC, dI) vwCl [] s := hK
  have hP : va_P (dC, dI) vwCl [(h0, .inr (4, [.ref q_1, .null, .null, .null, .null, .int 0, .int 0, .int 0, .int 0, .int 0, .int 0, .int 0, .int 0])), (q_1, .inr (0, [.int 0, .ref z, .int 0])), (q_3, .inr (0, [.int 0, .ref z, .int 0]))] H := hP
  have hD : va_D A [(h0, .inr (4, [.ref q_1, .null, .null, .null, .null, .int 0, .int 0, .int 0, .int 0, .int 0, .int 0, .int 0, .int 0])), (q_1, .inr (0, [.int 0, .ref z, .int 0])), (q_3, .inr (0, [.int 0, .ref z, .int 0]))] := hD
  refine W.eq (g2 := F0 m 23 ls [.ref q_3, .ref h0]) rfl ?_
  refine va_putF (D := (dC, dI)) (ci := 4) (v := .ref q_3) (ty := .object "java/util/ArrayList") (C := RX3) (T := TX3) (N := 13) hx hb hts (fun _ h => List.mem_cons_of_mem _ (List.mem_append_right _ h)) tyX3 tyX3_ok nmX3 hown hK hP hD hS 0 rfl rfl 1 (by decide) (hts (.fieldLink RX3 16 "FrontDoor" "calls" "Ljava/util/ArrayList;") (by decide +kernel)) (fun _ h9 => h9) rfl hin rfl (by decide +kernel) rfl rfl (Nat.le_of_ble_eq_true rfl) dX3_init_23 (fun H locs hP hD hS => ?_)
  have hP : va_P (dC, dI) vwCl [(h0, .inr (4, [.ref q_1, .ref q_3, .null, .null, .null, .int 0, .int 0, .int 0, .int 0, .int 0, .int 0, .int 0, .int 0])), (q_1, .inr (0, [.int 0, .ref z, .int 0])), (q_3, .inr (0, [.int 0, .ref z, .int 0]))] H := hP
  have hD : va_D A [(h0, .inr (4, [.ref q_1, .ref q_3, .null, .null, .null, .int 0, .int 0, .int 0, .int 0, .int 0, .int 0, .int 0, .int 0])), (q_1, .inr (0, [.int 0, .ref z, .int 0])), (q_3, .inr (0, [.int 0, .ref z, .int 0]))] := hD
  refine lv_aload_n hx hb dX3_init_26 rfl (lv_at hl 0 rfl) ?_
  refine va_new (ci := 0) (fs := [.int 0, .null, .int 0]) (C := RJx4a65c) (T := TJx4a65c) (N := 3) hx hb hts (fun _ h => List.mem_cons_of_mem _ (List.mem_append_left _ (List.mem_append_right _ h))) tyJx4a65c tyJx4a65c_ok hown (hts (.classLink RX3 7 RJx4a65c) (by decide +kernel)) (hts (.instantiable RJx4a65c 3) (by decide +kernel)) (hts (.initialized RJx4a65c) (by decide +kernel)) hK hP hD hS hA rfl (fun j hj => match j, hj with | 0, _ => rfl | 1, _ => rfl | 2, _ => rfl | z9 + 3, h9 => absurd h9 (by omega)) (Nat.le_of_ble_eq_true rfl) (Nat.le_of_ble_eq_true rfl) dX3_init_27 (fun q_5 H hP hD hS => ?_)
  have hP : va_P (dC, dI) vwCl [(h0, .inr (4, [.ref q_1, .ref q_3, .null, .null, .null, .int 0, .int 0, .int 0, .int 0, .int 0, .int 0, .int 0, .int 0])), (q_1, .inr (0, [.int 0, .ref z, .int 0])), (q_3, .inr (0, [.int 0, .ref z, .int 0])), (q_5, .inr (0, [.int 0, .null, .int 0]))] H := hP
  have hD : va_D A [(h0, .inr (4, [.ref q_1, .ref q_3, .null, .null, .null, .int 0, .int 0, .int 0, .int 0, .int 0, .int 0, .int 0, .int 0])), (q_1, .inr (0, [.int 0, .ref z, .int 0])), (q_3, .inr (0, [.int 0, .ref z, .int 0])), (q_5, .inr (0, [.int 0, .null, .int 0]))] := hD
  refine W.widen (k := 3) (n := 9) (Nat.le_refl 3) (Nat.le_refl 9) ?_
  refine lv_dup hx hb dX3_init_30 rfl ?_
  have hPc := hP.sub (ws' := [(q_5, .inr (0, [.int 0, .null, .int 0]))]) [3] rfl
  have hDc := hD.sub (ws' := [(q_5, .inr (0, [.int 0, .null, .int 0]))]) [3] (by decide) rfl
  have hKc := hK.sub (tys' := []) [] rfl
  have hFc := va_free (wc := [(q_5, .inr (0, [.int 0, .null, .int 0]))]) hD hS hA [3] rfl
  refine va_callv (va_runI (As := []) (rest := [.ref q_5, .ref h0]) ⟨hx, hb, hml, hown, hts⟩ (k_Jx4a65c_init_da8c8 l dC dI q_5 z H.size) (cwI 0 hts gX3_init_Jx4a65c_init_da8c8 rfl rfl rfl (hts (.initialized RJx4a65c) (by decide +kernel)) (hts (.methodLink RX3 9 yJx4a65c_init_da8c8) (by decide +kernel)) (hts (.instanceMethod yJx4a65c_init_da8c8) (by decide +kernel)) rfl (by decide +kernel) ⟨Nat.le_of_ble_eq_true rfl, Nat.le_of_ble_eq_true rfl⟩) ⟨pz_blindZ, fun U hU hW => ⟨rfl, ⟨pz_at hPc hKc hDc hU hW, pz_Zat hZ hS hFc hU hW⟩⟩⟩ rfl rfl hl.1 rfl (lv_room (Nat.le_of_ble_eq_true rfl)) dX3_init_31 ⟨Nat.le_of_ble_eq_true rfl, Nat.le_of_ble_eq_true rfl⟩) hS (fun q _ h => hFc q h) hFc (fun u t H locs ht hvm hw hB hz1 hk1 hS => ?_)
  obtain ⟨hP1, hK1, hD1⟩ := hB
  rw [ht] at hP1
  have hK1 := va_K.moved hvm.symm hK1
  obtain ⟨hP, hD⟩ := va_join (wr := [(h0, .inr (4, [.ref q_1, .ref q_3, .null, .null, .null, .int 0, .int 0, .int 0, .int 0, .int 0, .int 0, .int 0, .int 0])), (q_1, .inr (0, [.int 0, .ref z, .int 0])), (q_3, .inr (0, [.int 0, .ref z, .int 0]))]) (w1 := [(q_5, .inr (0, [.int 0, .ref z, .int 0]))]) hP hD [3] [0, 1, 2] rfl rfl (by decide) (by decide) hk1 hFc hP1 hD1
  have hK := hK.app hK1
  have hK : va_K (dC, dI) vwCl [] s := hK
  have hP : va_P (dC, dI) vwCl [(h0, .inr (4, [.ref q_1, .ref q_3, .null, .null, .null, .int 0, .int 0, .int 0, .int 0, .int 0, .int 0, .int 0, .int 0])), (q_1, .inr (0, [.int 0, .ref z, .int 0])), (q_3, .inr (0, [.int 0, .ref z, .int 0])), (q_5, .inr (0, [.int 0, .ref z, .int 0]))] H := hP
  have hD : va_D A [(h0, .inr (4, [.ref q_1, .ref q_3, .null, .null, .null, .int 0, .int 0, .int 0, .int 0, .int 0, .int 0, .int 0, .int 0])), (q_1, .inr (0, [.int 0, .ref z, .int 0])), (q_3, .inr (0, [.int 0, .ref z, .int 0])), (q_5, .inr (0, [.int 0, .ref z, .int 0]))] := hD
  refine W.eq (g2 := F0 m 34 ls [.ref q_5, .ref h0]) rfl ?_
  refine va_putF (D := (dC, dI)) (ci := 4) (v := .ref q_5) (ty := .object "java/util/ArrayList") (C := RX3) (T := TX3) (N := 13) hx hb hts (fun _ h => List.mem_cons_of_mem _ (List.mem_append_right _ h)) tyX3 tyX3_ok nmX3 hown hK hP hD hS 0 rfl rfl 2 (by decide) (hts (.fieldLink RX3 19 "FrontDoor" "live" "Ljava/util/ArrayList;") (by decide +kernel)) (fun _ h9 => h9) rfl hin rfl (by decide +kernel) rfl rfl (Nat.le_of_ble_eq_true rfl) dX3_init_34 (fun H locs hP hD hS => ?_)
  have hP : va_P (dC, dI) vwCl [(h0, .inr (4, [.ref q_1, .ref q_3, .ref q_5, .null, .null, .int 0, .int 0, .int 0, .int 0, .int 0, .int 0, .int 0, .int 0])), (q_1, .inr (0, [.int 0, .ref z, .int 0])), (q_3, .inr (0, [.int 0, .ref z, .int 0])), (q_5, .inr (0, [.int 0, .ref z, .int 0]))] H := hP
  have hD : va_D A [(h0, .inr (4, [.ref q_1, .ref q_3, .ref q_5, .null, .null, .int 0, .int 0, .int 0, .int 0, .int 0, .int 0, .int 0, .int 0])), (q_1, .inr (0, [.int 0, .ref z, .int 0])), (q_3, .inr (0, [.int 0, .ref z, .int 0])), (q_5, .inr (0, [.int 0, .ref z, .int 0]))] := hD
  refine lv_aload_n hx hb dX3_init_37 rfl (lv_at hl 0 rfl) ?_
  refine va_new (ci := 0) (fs := [.int 0, .null, .int 0]) (C := RJx4a65c) (T := TJx4a65c) (N := 3) hx hb hts (fun _ h => List.mem_cons_of_mem _ (List.mem_append_left _ (List.mem_append_right _ h))) tyJx4a65c tyJx4a65c_ok hown (hts (.classLink RX3 7 RJx4a65c) (by decide +kernel)) (hts (.instantiable RJx4a65c 3) (by decide +kernel)) (hts (.initialized RJx4a65c) (by decide +kernel)) hK hP hD hS hA rfl (fun j hj => match j, hj with | 0, _ => rfl | 1, _ => rfl | 2, _ => rfl | z9 + 3, h9 => absurd h9 (by omega)) (Nat.le_of_ble_eq_true rfl) (Nat.le_of_ble_eq_true rfl) dX3_init_38 (fun q_7 H hP hD hS => ?_)
  have hP : va_P (dC, dI) vwCl [(h0, .inr (4, [.ref q_1, .ref q_3, .ref q_5, .null, .null, .int 0, .int 0, .int 0, .int 0, .int 0, .int 0, .int 0, .int 0])), (q_1, .inr (0, [.int 0, .ref z, .int 0])), (q_3, .inr (0, [.int 0, .ref z, .int 0])), (q_5, .inr (0, [.int 0, .ref z, .int 0])), (q_7, .inr (0, [.int 0, .null, .int 0]))] H := hP
  have hD : va_D A [(h0, .inr (4, [.ref q_1, .ref q_3, .ref q_5, .null, .null, .int 0, .int 0, .int 0, .int 0, .int 0, .int 0, .int 0, .int 0])), (q_1, .inr (0, [.int 0, .ref z, .int 0])), (q_3, .inr (0, [.int 0, .ref z, .int 0])), (q_5, .inr (0, [.int 0, .ref z, .int 0])), (q_7, .inr (0, [.int 0, .null, .int 0]))] := hD
  refine W.widen (k := 4) (n := 12) (Nat.le_refl 4) (Nat.le_refl 12) ?_
  refine lv_dup hx hb dX3_init_41 rfl ?_
  have hPc := hP.sub (ws' := [(q_7, .inr (0, [.int 0, .null, .int 0]))]) [4] rfl
  have hDc := hD.sub (ws' := [(q_7, .inr (0, [.int 0, .null, .int 0]))]) [4] (by decide) rfl
  have hKc := hK.sub (tys' := []) [] rfl
  have hFc := va_free (wc := [(q_7, .inr (0, [.int 0, .null, .int 0]))]) hD hS hA [4] rfl
  refine va_callv (va_runI (As := []) (rest := [.ref q_7, .ref h0]) ⟨hx, hb, hml, hown, hts⟩ (k_Jx4a65c_init_da8c8 l dC dI q_7 z H.size) (cwI 0 hts gX3_init_Jx4a65c_init_da8c8 rfl rfl rfl (hts (.initialized RJx4a65c) (by decide +kernel)) (hts (.methodLink RX3 9 yJx4a65c_init_da8c8) (by decide +kernel)) (hts (.instanceMethod yJx4a65c_init_da8c8) (by decide +kernel)) rfl (by decide +kernel) ⟨Nat.le_of_ble_eq_true rfl, Nat.le_of_ble_eq_true rfl⟩) ⟨pz_blindZ, fun U hU hW => ⟨rfl, ⟨pz_at hPc hKc hDc hU hW, pz_Zat hZ hS hFc hU hW⟩⟩⟩ rfl rfl hl.1 rfl (lv_room (Nat.le_of_ble_eq_true rfl)) dX3_init_42 ⟨Nat.le_of_ble_eq_true rfl, Nat.le_of_ble_eq_true rfl⟩) hS (fun q _ h => hFc q h) hFc (fun u t H locs ht hvm hw hB hz1 hk1 hS => ?_)
  obtain ⟨hP1, hK1, hD1⟩ := hB
  rw [ht] at hP1
  have hK1 := va_K.moved hvm.symm hK1
  obtain ⟨hP, hD⟩ := va_join (wr := [(h0, .inr (4, [.ref q_1, .ref q_3, .ref q_5, .null, .null, .int 0, .int 0, .int 0, .int 0, .int 0, .int 0, .int 0, .int 0])), (q_1, .inr (0, [.int 0, .ref z, .int 0])), (q_3, .inr (0, [.int 0, .ref z, .int 0])), (q_5, .inr (0, [.int 0, .ref z, .int 0]))]) (w1 := [(q_7, .inr (0, [.int 0, .ref z, .int 0]))]) hP hD [4] [0, 1, 2, 3] rfl rfl (by decide) (by decide) hk1 hFc hP1 hD1
  have hK := hK.app hK1
  have hK : va_K (dC, dI) vwCl [] s := hK
  have hP : va_P (dC, dI) vwCl [(h0, .inr (4, [.ref q_1, .ref q_3, .ref q_5, .null, .null, .int 0, .int 0, .int 0, .int 0, .int 0, .int 0, .int 0, .int 0])), (q_1, .inr (0, [.int 0, .ref z, .int 0])), (q_3, .inr (0, [.int 0, .ref z, .int 0])), (q_5, .inr (0, [.int 0, .ref z, .int 0])), (q_7, .inr (0, [.int 0, .ref z, .int 0]))] H := hP
  have hD : va_D A [(h0, .inr (4, [.ref q_1, .ref q_3, .ref q_5, .null, .null, .int 0, .int 0, .int 0, .int 0, .int 0, .int 0, .int 0, .int 0])), (q_1, .inr (0, [.int 0, .ref z, .int 0])), (q_3, .inr (0, [.int 0, .ref z, .int 0])), (q_5, .inr (0, [.int 0, .ref z, .int 0])), (q_7, .inr (0, [.int 0, .ref z, .int 0]))] := hD
  refine W.eq (g2 := F0 m 45 ls [.ref q_7, .ref h0]) rfl ?_
  refine va_putF (D := (dC, dI)) (ci := 4) (v := .ref q_7) (ty := .object "java/util/ArrayList") (C := RX3) (T := TX3) (N := 13) hx hb hts (fun _ h => List.mem_cons_of_mem _ (List.mem_append_right _ h)) tyX3 tyX3_ok nmX3 hown hK hP hD hS 0 rfl rfl 3 (by decide) (hts (.fieldLink RX3 22 "FrontDoor" "line" "Ljava/util/ArrayList;") (by decide +kernel)) (fun _ h9 => h9) rfl hin rfl (by decide +kernel) rfl rfl (Nat.le_of_ble_eq_true rfl) dX3_init_45 (fun H locs hP hD hS => ?_)
  have hP : va_P (dC, dI) vwCl [(h0, .inr (4, [.ref q_1, .ref q_3, .ref q_5, .ref q_7, .null, .int 0, .int 0, .int 0, .int 0, .int 0, .int 0, .int 0, .int 0])), (q_1, .inr (0, [.int 0, .ref z, .int 0])), (q_3, .inr (0, [.int 0, .ref z, .int 0])), (q_5, .inr (0, [.int 0, .ref z, .int 0])), (q_7, .inr (0, [.int 0, .ref z, .int 0]))] H := hP
  have hD : va_D A [(h0, .inr (4, [.ref q_1, .ref q_3, .ref q_5, .ref q_7, .null, .int 0, .int 0, .int 0, .int 0, .int 0, .int 0, .int 0, .int 0])), (q_1, .inr (0, [.int 0, .ref z, .int 0])), (q_3, .inr (0, [.int 0, .ref z, .int 0])), (q_5, .inr (0, [.int 0, .ref z, .int 0])), (q_7, .inr (0, [.int 0, .ref z, .int 0]))] := hD
  refine lv_aload_n hx hb dX3_init_48 rfl (lv_at hl 0 rfl) ?_
  refine lv_bipush (v := 7) hx hb dX3_init_49 (by decide) ?_
  refine va_newa (D := (dC, dI)) (cl := vwCl) (atype := .int) (ty := .int) (n := 7) (N' := 7) (a0 := (7, .inl (fun _ => 0))) hx hb (by exact hts (.arrayClass .int) (by decide +kernel)) (by rfl) hK hP hD hS hA (by exact pz_aI 7) pz_n7 pz_c7 (by exact pz_bI7) (Nat.le_of_ble_eq_true rfl) (Nat.le_of_ble_eq_true rfl) dX3_init_51 (fun q_9 cA_9 H hK hP hD hS => ?_)
  sorry
end
