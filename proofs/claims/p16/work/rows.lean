section
-- ===== PART A: goes FIRST, ahead of the names: the tables' words, and 'selects' of the private methods out of them =====
/-- a private method of a class that the tables say can be made, by its rows of tables_1 -/
def lw_okq (q : MethodName × Nat) : Prop := (q.1.cls ≠ "java/lang/invoke/MethodHandle" ∧ q.1.cls ≠ "java/lang/invoke/VarHandle") ∧ Cond.instantiable q.1.cls q.2 ∈ tables_1 ∧ Cond.privateMethod q.1 ∈ tables_1 ∧ Cond.instanceMethod q.1 ∈ tables_1
theorem lw_p0 : lw_okq (⟨"FrontDoor", "refuse", "(I)I"⟩, 13) := ⟨⟨by decide +kernel, by decide +kernel⟩, List.mem_of_getElem? (i := 16) (by decide +kernel), List.mem_of_getElem? (i := 95) (by decide +kernel), List.mem_of_getElem? (i := 96) (by decide +kernel)⟩
theorem lw_p1 : lw_okq (⟨"java/util/ArrayList", "add", "(Ljava/lang/Object;[Ljava/lang/Object;I)V"⟩, 3) := ⟨⟨by decide +kernel, by decide +kernel⟩, List.mem_of_getElem? (i := 24) (by decide +kernel), List.mem_of_getElem? (i := 178) (by decide +kernel), List.mem_of_getElem? (i := 179) (by decide +kernel)⟩
theorem lw_p2 : lw_okq (⟨"java/util/ArrayList", "grow", "()[Ljava/lang/Object;"⟩, 3) := ⟨⟨by decide +kernel, by decide +kernel⟩, List.mem_of_getElem? (i := 24) (by decide +kernel), List.mem_of_getElem? (i := 182) (by decide +kernel), List.mem_of_getElem? (i := 183) (by decide +kernel)⟩
theorem lw_p3 : lw_okq (⟨"java/util/ArrayList", "grow", "(I)[Ljava/lang/Object;"⟩, 3) := ⟨⟨by decide +kernel, by decide +kernel⟩, List.mem_of_getElem? (i := 24) (by decide +kernel), List.mem_of_getElem? (i := 186) (by decide +kernel), List.mem_of_getElem? (i := 187) (by decide +kernel)⟩
theorem lw_p4 : lw_okq (⟨"FrontDoor", "serverAt", "(I)LFrontDoor$Server;"⟩, 13) := ⟨⟨by decide +kernel, by decide +kernel⟩, List.mem_of_getElem? (i := 16) (by decide +kernel), List.mem_of_getElem? (i := 231) (by decide +kernel), List.mem_of_getElem? (i := 232) (by decide +kernel)⟩
theorem lw_p5 : lw_okq (⟨"FrontDoor", "askByRule", "(LFrontDoor$Call;)Z"⟩, 13) := ⟨⟨by decide +kernel, by decide +kernel⟩, List.mem_of_getElem? (i := 16) (by decide +kernel), List.mem_of_getElem? (i := 349) (by decide +kernel), List.mem_of_getElem? (i := 350) (by decide +kernel)⟩
theorem lw_p6 : lw_okq (⟨"FrontDoor", "chosen", "(II)LFrontDoor$Server;"⟩, 13) := ⟨⟨by decide +kernel, by decide +kernel⟩, List.mem_of_getElem? (i := 16) (by decide +kernel), List.mem_of_getElem? (i := 353) (by decide +kernel), List.mem_of_getElem? (i := 354) (by decide +kernel)⟩
theorem lw_p7 : lw_okq (⟨"FrontDoor", "byTurn", "(I)LFrontDoor$Server;"⟩, 13) := ⟨⟨by decide +kernel, by decide +kernel⟩, List.mem_of_getElem? (i := 16) (by decide +kernel), List.mem_of_getElem? (i := 357) (by decide +kernel), List.mem_of_getElem? (i := 358) (by decide +kernel)⟩
theorem lw_p8 : lw_okq (⟨"FrontDoor", "byRing", "(II)LFrontDoor$Server;"⟩, 13) := ⟨⟨by decide +kernel, by decide +kernel⟩, List.mem_of_getElem? (i := 16) (by decide +kernel), List.mem_of_getElem? (i := 365) (by decide +kernel), List.mem_of_getElem? (i := 366) (by decide +kernel)⟩
theorem lw_p9 : lw_okq (⟨"FrontDoor", "byFewest", "(II)LFrontDoor$Server;"⟩, 13) := ⟨⟨by decide +kernel, by decide +kernel⟩, List.mem_of_getElem? (i := 16) (by decide +kernel), List.mem_of_getElem? (i := 381) (by decide +kernel), List.mem_of_getElem? (i := 382) (by decide +kernel)⟩
theorem lw_p10 : lw_okq (⟨"FrontDoor", "settleCredits", "(ILFrontDoor$Server;)V"⟩, 13) := ⟨⟨by decide +kernel, by decide +kernel⟩, List.mem_of_getElem? (i := 16) (by decide +kernel), List.mem_of_getElem? (i := 385) (by decide +kernel), List.mem_of_getElem? (i := 386) (by decide +kernel)⟩
theorem lw_p11 : lw_okq (⟨"FrontDoor", "joinLine", "(LFrontDoor$Call;)V"⟩, 13) := ⟨⟨by decide +kernel, by decide +kernel⟩, List.mem_of_getElem? (i := 16) (by decide +kernel), List.mem_of_getElem? (i := 421) (by decide +kernel), List.mem_of_getElem? (i := 422) (by decide +kernel)⟩
theorem lw_p12 : lw_okq (⟨"java/util/ArrayList", "rangeCheckForAdd", "(I)V"⟩, 3) := ⟨⟨by decide +kernel, by decide +kernel⟩, List.mem_of_getElem? (i := 24) (by decide +kernel), List.mem_of_getElem? (i := 433) (by decide +kernel), List.mem_of_getElem? (i := 434) (by decide +kernel)⟩
theorem lw_p13 : lw_okq (⟨"FrontDoor", "callAt", "(I)LFrontDoor$Call;"⟩, 13) := ⟨⟨by decide +kernel, by decide +kernel⟩, List.mem_of_getElem? (i := 16) (by decide +kernel), List.mem_of_getElem? (i := 442) (by decide +kernel), List.mem_of_getElem? (i := 443) (by decide +kernel)⟩
theorem lw_p14 : lw_okq (⟨"FrontDoor", "leaveLine", "(LFrontDoor$Call;)V"⟩, 13) := ⟨⟨by decide +kernel, by decide +kernel⟩, List.mem_of_getElem? (i := 16) (by decide +kernel), List.mem_of_getElem? (i := 450) (by decide +kernel), List.mem_of_getElem? (i := 451) (by decide +kernel)⟩
theorem lw_p15 : lw_okq (⟨"java/util/ArrayList", "fastRemove", "([Ljava/lang/Object;I)V"⟩, 3) := ⟨⟨by decide +kernel, by decide +kernel⟩, List.mem_of_getElem? (i := 24) (by decide +kernel), List.mem_of_getElem? (i := 458) (by decide +kernel), List.mem_of_getElem? (i := 459) (by decide +kernel)⟩
def lw_privs_1 : List (MethodName × Nat) := [(⟨"FrontDoor", "refuse", "(I)I"⟩, 13), (⟨"java/util/ArrayList", "add", "(Ljava/lang/Object;[Ljava/lang/Object;I)V"⟩, 3), (⟨"java/util/ArrayList", "grow", "()[Ljava/lang/Object;"⟩, 3), (⟨"java/util/ArrayList", "grow", "(I)[Ljava/lang/Object;"⟩, 3), (⟨"FrontDoor", "serverAt", "(I)LFrontDoor$Server;"⟩, 13), (⟨"FrontDoor", "askByRule", "(LFrontDoor$Call;)Z"⟩, 13), (⟨"FrontDoor", "chosen", "(II)LFrontDoor$Server;"⟩, 13), (⟨"FrontDoor", "byTurn", "(I)LFrontDoor$Server;"⟩, 13), (⟨"FrontDoor", "byRing", "(II)LFrontDoor$Server;"⟩, 13), (⟨"FrontDoor", "byFewest", "(II)LFrontDoor$Server;"⟩, 13), (⟨"FrontDoor", "settleCredits", "(ILFrontDoor$Server;)V"⟩, 13), (⟨"FrontDoor", "joinLine", "(LFrontDoor$Call;)V"⟩, 13), (⟨"java/util/ArrayList", "rangeCheckForAdd", "(I)V"⟩, 3), (⟨"FrontDoor", "callAt", "(I)LFrontDoor$Call;"⟩, 13), (⟨"FrontDoor", "leaveLine", "(LFrontDoor$Call;)V"⟩, 13), (⟨"java/util/ArrayList", "fastRemove", "([Ljava/lang/Object;I)V"⟩, 3)]
theorem lw_r1 : ∀ q ∈ lw_privs_1, lw_okq q := List.forall_mem_cons.mpr ⟨lw_p0, List.forall_mem_cons.mpr ⟨lw_p1, List.forall_mem_cons.mpr ⟨lw_p2, List.forall_mem_cons.mpr ⟨lw_p3, List.forall_mem_cons.mpr ⟨lw_p4, List.forall_mem_cons.mpr ⟨lw_p5, List.forall_mem_cons.mpr ⟨lw_p6, List.forall_mem_cons.mpr ⟨lw_p7, List.forall_mem_cons.mpr ⟨lw_p8, List.forall_mem_cons.mpr ⟨lw_p9, List.forall_mem_cons.mpr ⟨lw_p10, List.forall_mem_cons.mpr ⟨lw_p11, List.forall_mem_cons.mpr ⟨lw_p12, List.forall_mem_cons.mpr ⟨lw_p13, List.forall_mem_cons.mpr ⟨lw_p14, List.forall_mem_cons.mpr ⟨lw_p15, fun _ h => absurd h List.not_mem_nil⟩⟩⟩⟩⟩⟩⟩⟩⟩⟩⟩⟩⟩⟩⟩⟩
theorem lw_p16 : lw_okq (⟨"FrontDoor", "end", "(LFrontDoor$Call;I)V"⟩, 13) := ⟨⟨by decide +kernel, by decide +kernel⟩, List.mem_of_getElem? (i := 16) (by decide +kernel), List.mem_of_getElem? (i := 470) (by decide +kernel), List.mem_of_getElem? (i := 471) (by decide +kernel)⟩
theorem lw_p17 : lw_okq (⟨"FrontDoor", "dropEnded", "()V"⟩, 13) := ⟨⟨by decide +kernel, by decide +kernel⟩, List.mem_of_getElem? (i := 16) (by decide +kernel), List.mem_of_getElem? (i := 474) (by decide +kernel), List.mem_of_getElem? (i := 475) (by decide +kernel)⟩
theorem lw_p18 : lw_okq (⟨"FrontDoor", "passTick", "()V"⟩, 13) := ⟨⟨by decide +kernel, by decide +kernel⟩, List.mem_of_getElem? (i := 16) (by decide +kernel), List.mem_of_getElem? (i := 482) (by decide +kernel), List.mem_of_getElem? (i := 483) (by decide +kernel)⟩
theorem lw_p19 : lw_okq (⟨"FrontDoor", "takeWhatIsOver", "()V"⟩, 13) := ⟨⟨by decide +kernel, by decide +kernel⟩, List.mem_of_getElem? (i := 16) (by decide +kernel), List.mem_of_getElem? (i := 486) (by decide +kernel), List.mem_of_getElem? (i := 487) (by decide +kernel)⟩
theorem lw_p20 : lw_okq (⟨"FrontDoor", "takeAnswer", "(LFrontDoor$Call;LFrontDoor$Asking;)V"⟩, 13) := ⟨⟨by decide +kernel, by decide +kernel⟩, List.mem_of_getElem? (i := 16) (by decide +kernel), List.mem_of_getElem? (i := 490) (by decide +kernel), List.mem_of_getElem? (i := 491) (by decide +kernel)⟩
theorem lw_p21 : lw_okq (⟨"FrontDoor", "failureOf", "(LFrontDoor$Server;)V"⟩, 13) := ⟨⟨by decide +kernel, by decide +kernel⟩, List.mem_of_getElem? (i := 16) (by decide +kernel), List.mem_of_getElem? (i := 499) (by decide +kernel), List.mem_of_getElem? (i := 500) (by decide +kernel)⟩
theorem lw_p22 : lw_okq (⟨"FrontDoor", "oneMoreOutIsTooMany", "()Z"⟩, 13) := ⟨⟨by decide +kernel, by decide +kernel⟩, List.mem_of_getElem? (i := 16) (by decide +kernel), List.mem_of_getElem? (i := 503) (by decide +kernel), List.mem_of_getElem? (i := 504) (by decide +kernel)⟩
theorem lw_p23 : lw_okq (⟨"FrontDoor", "budgetHolds", "()Z"⟩, 13) := ⟨⟨by decide +kernel, by decide +kernel⟩, List.mem_of_getElem? (i := 16) (by decide +kernel), List.mem_of_getElem? (i := 511) (by decide +kernel), List.mem_of_getElem? (i := 512) (by decide +kernel)⟩
theorem lw_p24 : lw_okq (⟨"FrontDoor", "meetDues", "()V"⟩, 13) := ⟨⟨by decide +kernel, by decide +kernel⟩, List.mem_of_getElem? (i := 16) (by decide +kernel), List.mem_of_getElem? (i := 515) (by decide +kernel), List.mem_of_getElem? (i := 516) (by decide +kernel)⟩
theorem lw_p25 : lw_okq (⟨"FrontDoor", "failByDue", "(LFrontDoor$Call;)V"⟩, 13) := ⟨⟨by decide +kernel, by decide +kernel⟩, List.mem_of_getElem? (i := 16) (by decide +kernel), List.mem_of_getElem? (i := 519) (by decide +kernel), List.mem_of_getElem? (i := 520) (by decide +kernel)⟩
theorem lw_p26 : lw_okq (⟨"FrontDoor", "tryThoseOut", "()V"⟩, 13) := ⟨⟨by decide +kernel, by decide +kernel⟩, List.mem_of_getElem? (i := 16) (by decide +kernel), List.mem_of_getElem? (i := 523) (by decide +kernel), List.mem_of_getElem? (i := 524) (by decide +kernel)⟩
theorem lw_p27 : lw_okq (⟨"FrontDoor", "hedgeSlow", "()V"⟩, 13) := ⟨⟨by decide +kernel, by decide +kernel⟩, List.mem_of_getElem? (i := 16) (by decide +kernel), List.mem_of_getElem? (i := 527) (by decide +kernel), List.mem_of_getElem? (i := 528) (by decide +kernel)⟩
theorem lw_p28 : lw_okq (⟨"FrontDoor", "askQueued", "()V"⟩, 13) := ⟨⟨by decide +kernel, by decide +kernel⟩, List.mem_of_getElem? (i := 16) (by decide +kernel), List.mem_of_getElem? (i := 531) (by decide +kernel), List.mem_of_getElem? (i := 532) (by decide +kernel)⟩
theorem lw_p29 : lw_okq (⟨"FrontDoor", "letDrainedGo", "()V"⟩, 13) := ⟨⟨by decide +kernel, by decide +kernel⟩, List.mem_of_getElem? (i := 16) (by decide +kernel), List.mem_of_getElem? (i := 535) (by decide +kernel), List.mem_of_getElem? (i := 536) (by decide +kernel)⟩
theorem lw_p30 : lw_okq (⟨"FrontDoor", "askingsSoFar", "()I"⟩, 13) := ⟨⟨by decide +kernel, by decide +kernel⟩, List.mem_of_getElem? (i := 16) (by decide +kernel), List.mem_of_getElem? (i := 569) (by decide +kernel), List.mem_of_getElem? (i := 570) (by decide +kernel)⟩
theorem lw_p31 : lw_okq (⟨"FrontDoor", "callsThatAre", "(I)I"⟩, 13) := ⟨⟨by decide +kernel, by decide +kernel⟩, List.mem_of_getElem? (i := 16) (by decide +kernel), List.mem_of_getElem? (i := 577) (by decide +kernel), List.mem_of_getElem? (i := 578) (by decide +kernel)⟩
def lw_privs_2 : List (MethodName × Nat) := [(⟨"FrontDoor", "end", "(LFrontDoor$Call;I)V"⟩, 13), (⟨"FrontDoor", "dropEnded", "()V"⟩, 13), (⟨"FrontDoor", "passTick", "()V"⟩, 13), (⟨"FrontDoor", "takeWhatIsOver", "()V"⟩, 13), (⟨"FrontDoor", "takeAnswer", "(LFrontDoor$Call;LFrontDoor$Asking;)V"⟩, 13), (⟨"FrontDoor", "failureOf", "(LFrontDoor$Server;)V"⟩, 13), (⟨"FrontDoor", "oneMoreOutIsTooMany", "()Z"⟩, 13), (⟨"FrontDoor", "budgetHolds", "()Z"⟩, 13), (⟨"FrontDoor", "meetDues", "()V"⟩, 13), (⟨"FrontDoor", "failByDue", "(LFrontDoor$Call;)V"⟩, 13), (⟨"FrontDoor", "tryThoseOut", "()V"⟩, 13), (⟨"FrontDoor", "hedgeSlow", "()V"⟩, 13), (⟨"FrontDoor", "askQueued", "()V"⟩, 13), (⟨"FrontDoor", "letDrainedGo", "()V"⟩, 13), (⟨"FrontDoor", "askingsSoFar", "()I"⟩, 13), (⟨"FrontDoor", "callsThatAre", "(I)I"⟩, 13)]
theorem lw_r2 : ∀ q ∈ lw_privs_2, lw_okq q := List.forall_mem_cons.mpr ⟨lw_p16, List.forall_mem_cons.mpr ⟨lw_p17, List.forall_mem_cons.mpr ⟨lw_p18, List.forall_mem_cons.mpr ⟨lw_p19, List.forall_mem_cons.mpr ⟨lw_p20, List.forall_mem_cons.mpr ⟨lw_p21, List.forall_mem_cons.mpr ⟨lw_p22, List.forall_mem_cons.mpr ⟨lw_p23, List.forall_mem_cons.mpr ⟨lw_p24, List.forall_mem_cons.mpr ⟨lw_p25, List.forall_mem_cons.mpr ⟨lw_p26, List.forall_mem_cons.mpr ⟨lw_p27, List.forall_mem_cons.mpr ⟨lw_p28, List.forall_mem_cons.mpr ⟨lw_p29, List.forall_mem_cons.mpr ⟨lw_p30, List.forall_mem_cons.mpr ⟨lw_p31, fun _ h => absurd h List.not_mem_nil⟩⟩⟩⟩⟩⟩⟩⟩⟩⟩⟩⟩⟩⟩⟩⟩
theorem lw_p32 : lw_okq (⟨"FrontDoor", "openAskings", "()I"⟩, 13) := ⟨⟨by decide +kernel, by decide +kernel⟩, List.mem_of_getElem? (i := 16) (by decide +kernel), List.mem_of_getElem? (i := 581) (by decide +kernel), List.mem_of_getElem? (i := 582) (by decide +kernel)⟩
theorem lw_p33 : lw_okq (⟨"FrontDoorModel", "refuse", "(I)I"⟩, 43) := ⟨⟨by decide +kernel, by decide +kernel⟩, List.mem_of_getElem? (i := 585) (by decide +kernel), List.mem_of_getElem? (i := 729) (by decide +kernel), List.mem_of_getElem? (i := 730) (by decide +kernel)⟩
theorem lw_p34 : lw_okq (⟨"FrontDoorModel", "isServer", "(I)Z"⟩, 43) := ⟨⟨by decide +kernel, by decide +kernel⟩, List.mem_of_getElem? (i := 585) (by decide +kernel), List.mem_of_getElem? (i := 737) (by decide +kernel), List.mem_of_getElem? (i := 738) (by decide +kernel)⟩
theorem lw_p35 : lw_okq (⟨"FrontDoorModel", "asksFor", "(I)Z"⟩, 43) := ⟨⟨by decide +kernel, by decide +kernel⟩, List.mem_of_getElem? (i := 585) (by decide +kernel), List.mem_of_getElem? (i := 775) (by decide +kernel), List.mem_of_getElem? (i := 776) (by decide +kernel)⟩
theorem lw_p36 : lw_okq (⟨"FrontDoorModel", "mays", "(I)I"⟩, 43) := ⟨⟨by decide +kernel, by decide +kernel⟩, List.mem_of_getElem? (i := 585) (by decide +kernel), List.mem_of_getElem? (i := 779) (by decide +kernel), List.mem_of_getElem? (i := 780) (by decide +kernel)⟩
theorem lw_p37 : lw_okq (⟨"FrontDoorModel", "picked", "(IIZ)I"⟩, 43) := ⟨⟨by decide +kernel, by decide +kernel⟩, List.mem_of_getElem? (i := 585) (by decide +kernel), List.mem_of_getElem? (i := 783) (by decide +kernel), List.mem_of_getElem? (i := 784) (by decide +kernel)⟩
theorem lw_p38 : lw_okq (⟨"FrontDoorModel", "byTurns", "(IZ)I"⟩, 43) := ⟨⟨by decide +kernel, by decide +kernel⟩, List.mem_of_getElem? (i := 585) (by decide +kernel), List.mem_of_getElem? (i := 787) (by decide +kernel), List.mem_of_getElem? (i := 788) (by decide +kernel)⟩
theorem lw_p39 : lw_okq (⟨"FrontDoorModel", "fewest", "(I)I"⟩, 43) := ⟨⟨by decide +kernel, by decide +kernel⟩, List.mem_of_getElem? (i := 585) (by decide +kernel), List.mem_of_getElem? (i := 791) (by decide +kernel), List.mem_of_getElem? (i := 792) (by decide +kernel)⟩
theorem lw_p40 : lw_okq (⟨"FrontDoorModel", "onRing", "(II)I"⟩, 43) := ⟨⟨by decide +kernel, by decide +kernel⟩, List.mem_of_getElem? (i := 585) (by decide +kernel), List.mem_of_getElem? (i := 795) (by decide +kernel), List.mem_of_getElem? (i := 796) (by decide +kernel)⟩
theorem lw_p41 : lw_okq (⟨"FrontDoorModel", "near", "(II)I"⟩, 43) := ⟨⟨by decide +kernel, by decide +kernel⟩, List.mem_of_getElem? (i := 585) (by decide +kernel), List.mem_of_getElem? (i := 803) (by decide +kernel), List.mem_of_getElem? (i := 804) (by decide +kernel)⟩
theorem lw_p42 : lw_okq (⟨"FrontDoorModel", "ask", "(II)V"⟩, 43) := ⟨⟨by decide +kernel, by decide +kernel⟩, List.mem_of_getElem? (i := 585) (by decide +kernel), List.mem_of_getElem? (i := 807) (by decide +kernel), List.mem_of_getElem? (i := 808) (by decide +kernel)⟩
theorem lw_p43 : lw_okq (⟨"FrontDoorModel", "isCall", "(I)Z"⟩, 43) := ⟨⟨by decide +kernel, by decide +kernel⟩, List.mem_of_getElem? (i := 585) (by decide +kernel), List.mem_of_getElem? (i := 816) (by decide +kernel), List.mem_of_getElem? (i := 817) (by decide +kernel)⟩
theorem lw_p44 : lw_okq (⟨"FrontDoorModel", "ends", "(II)V"⟩, 43) := ⟨⟨by decide +kernel, by decide +kernel⟩, List.mem_of_getElem? (i := 585) (by decide +kernel), List.mem_of_getElem? (i := 820) (by decide +kernel), List.mem_of_getElem? (i := 821) (by decide +kernel)⟩
theorem lw_p45 : lw_okq (⟨"FrontDoorModel", "takes", "(II)V"⟩, 43) := ⟨⟨by decide +kernel, by decide +kernel⟩, List.mem_of_getElem? (i := 585) (by decide +kernel), List.mem_of_getElem? (i := 824) (by decide +kernel), List.mem_of_getElem? (i := 825) (by decide +kernel)⟩
theorem lw_p46 : lw_okq (⟨"FrontDoorModel", "goesOn", "()I"⟩, 43) := ⟨⟨by decide +kernel, by decide +kernel⟩, List.mem_of_getElem? (i := 585) (by decide +kernel), List.mem_of_getElem? (i := 832) (by decide +kernel), List.mem_of_getElem? (i := 833) (by decide +kernel)⟩
theorem lw_p47 : lw_okq (⟨"FrontDoorModel", "comesBack", "(I)Z"⟩, 43) := ⟨⟨by decide +kernel, by decide +kernel⟩, List.mem_of_getElem? (i := 585) (by decide +kernel), List.mem_of_getElem? (i := 836) (by decide +kernel), List.mem_of_getElem? (i := 837) (by decide +kernel)⟩
def lw_privs_3 : List (MethodName × Nat) := [(⟨"FrontDoor", "openAskings", "()I"⟩, 13), (⟨"FrontDoorModel", "refuse", "(I)I"⟩, 43), (⟨"FrontDoorModel", "isServer", "(I)Z"⟩, 43), (⟨"FrontDoorModel", "asksFor", "(I)Z"⟩, 43), (⟨"FrontDoorModel", "mays", "(I)I"⟩, 43), (⟨"FrontDoorModel", "picked", "(IIZ)I"⟩, 43), (⟨"FrontDoorModel", "byTurns", "(IZ)I"⟩, 43), (⟨"FrontDoorModel", "fewest", "(I)I"⟩, 43), (⟨"FrontDoorModel", "onRing", "(II)I"⟩, 43), (⟨"FrontDoorModel", "near", "(II)I"⟩, 43), (⟨"FrontDoorModel", "ask", "(II)V"⟩, 43), (⟨"FrontDoorModel", "isCall", "(I)Z"⟩, 43), (⟨"FrontDoorModel", "ends", "(II)V"⟩, 43), (⟨"FrontDoorModel", "takes", "(II)V"⟩, 43), (⟨"FrontDoorModel", "goesOn", "()I"⟩, 43), (⟨"FrontDoorModel", "comesBack", "(I)Z"⟩, 43)]
theorem lw_r3 : ∀ q ∈ lw_privs_3, lw_okq q := List.forall_mem_cons.mpr ⟨lw_p32, List.forall_mem_cons.mpr ⟨lw_p33, List.forall_mem_cons.mpr ⟨lw_p34, List.forall_mem_cons.mpr ⟨lw_p35, List.forall_mem_cons.mpr ⟨lw_p36, List.forall_mem_cons.mpr ⟨lw_p37, List.forall_mem_cons.mpr ⟨lw_p38, List.forall_mem_cons.mpr ⟨lw_p39, List.forall_mem_cons.mpr ⟨lw_p40, List.forall_mem_cons.mpr ⟨lw_p41, List.forall_mem_cons.mpr ⟨lw_p42, List.forall_mem_cons.mpr ⟨lw_p43, List.forall_mem_cons.mpr ⟨lw_p44, List.forall_mem_cons.mpr ⟨lw_p45, List.forall_mem_cons.mpr ⟨lw_p46, List.forall_mem_cons.mpr ⟨lw_p47, fun _ h => absurd h List.not_mem_nil⟩⟩⟩⟩⟩⟩⟩⟩⟩⟩⟩⟩⟩⟩⟩⟩
theorem lw_p48 : lw_okq (⟨"FrontDoorModel", "answer", "(I)V"⟩, 43) := ⟨⟨by decide +kernel, by decide +kernel⟩, List.mem_of_getElem? (i := 585) (by decide +kernel), List.mem_of_getElem? (i := 840) (by decide +kernel), List.mem_of_getElem? (i := 841) (by decide +kernel)⟩
theorem lw_p49 : lw_okq (⟨"FrontDoorModel", "failure", "(I)V"⟩, 43) := ⟨⟨by decide +kernel, by decide +kernel⟩, List.mem_of_getElem? (i := 585) (by decide +kernel), List.mem_of_getElem? (i := 844) (by decide +kernel), List.mem_of_getElem? (i := 845) (by decide +kernel)⟩
theorem lw_p50 : lw_okq (⟨"FrontDoorModel", "outsNow", "(Z)I"⟩, 43) := ⟨⟨by decide +kernel, by decide +kernel⟩, List.mem_of_getElem? (i := 585) (by decide +kernel), List.mem_of_getElem? (i := 848) (by decide +kernel), List.mem_of_getElem? (i := 849) (by decide +kernel)⟩
theorem lw_p51 : lw_okq (⟨"FrontDoorModel", "isDue", "(I)Z"⟩, 43) := ⟨⟨by decide +kernel, by decide +kernel⟩, List.mem_of_getElem? (i := 585) (by decide +kernel), List.mem_of_getElem? (i := 853) (by decide +kernel), List.mem_of_getElem? (i := 854) (by decide +kernel)⟩
theorem lw_p52 : lw_okq (⟨"FrontDoorModel", "hedges", "(I)V"⟩, 43) := ⟨⟨by decide +kernel, by decide +kernel⟩, List.mem_of_getElem? (i := 585) (by decide +kernel), List.mem_of_getElem? (i := 857) (by decide +kernel), List.mem_of_getElem? (i := 858) (by decide +kernel)⟩
theorem lw_p53 : lw_okq (⟨"FrontDoorModel", "line", "()V"⟩, 43) := ⟨⟨by decide +kernel, by decide +kernel⟩, List.mem_of_getElem? (i := 585) (by decide +kernel), List.mem_of_getElem? (i := 861) (by decide +kernel), List.mem_of_getElem? (i := 862) (by decide +kernel)⟩
theorem lw_p54 : lw_okq (⟨"FrontDoorModel", "isAhead", "(II)Z"⟩, 43) := ⟨⟨by decide +kernel, by decide +kernel⟩, List.mem_of_getElem? (i := 585) (by decide +kernel), List.mem_of_getElem? (i := 865) (by decide +kernel), List.mem_of_getElem? (i := 866) (by decide +kernel)⟩
theorem lw_p55 : lw_okq (⟨"FrontDoorModel", "inState", "(I)I"⟩, 43) := ⟨⟨by decide +kernel, by decide +kernel⟩, List.mem_of_getElem? (i := 585) (by decide +kernel), List.mem_of_getElem? (i := 894) (by decide +kernel), List.mem_of_getElem? (i := 895) (by decide +kernel)⟩
def lw_privs_4 : List (MethodName × Nat) := [(⟨"FrontDoorModel", "answer", "(I)V"⟩, 43), (⟨"FrontDoorModel", "failure", "(I)V"⟩, 43), (⟨"FrontDoorModel", "outsNow", "(Z)I"⟩, 43), (⟨"FrontDoorModel", "isDue", "(I)Z"⟩, 43), (⟨"FrontDoorModel", "hedges", "(I)V"⟩, 43), (⟨"FrontDoorModel", "line", "()V"⟩, 43), (⟨"FrontDoorModel", "isAhead", "(II)Z"⟩, 43), (⟨"FrontDoorModel", "inState", "(I)I"⟩, 43)]
theorem lw_r4 : ∀ q ∈ lw_privs_4, lw_okq q := List.forall_mem_cons.mpr ⟨lw_p48, List.forall_mem_cons.mpr ⟨lw_p49, List.forall_mem_cons.mpr ⟨lw_p50, List.forall_mem_cons.mpr ⟨lw_p51, List.forall_mem_cons.mpr ⟨lw_p52, List.forall_mem_cons.mpr ⟨lw_p53, List.forall_mem_cons.mpr ⟨lw_p54, List.forall_mem_cons.mpr ⟨lw_p55, fun _ h => absurd h List.not_mem_nil⟩⟩⟩⟩⟩⟩⟩⟩
def lw_privs : List (MethodName × Nat) := lw_privs_1 ++ (lw_privs_2 ++ (lw_privs_3 ++ (lw_privs_4)))
def lw_tbl : List Cond := k2_sels lw_privs ++ tables_1
theorem lw_privs_ok : ∀ q ∈ lw_privs, lw_okq q := by
  show ∀ q ∈ lw_privs_1 ++ (lw_privs_2 ++ (lw_privs_3 ++ (lw_privs_4))), lw_okq q
  exact List.forall_mem_append.mpr ⟨lw_r1, List.forall_mem_append.mpr ⟨lw_r2, List.forall_mem_append.mpr ⟨lw_r3, lw_r4⟩⟩⟩
end
section

/-! ===== BEGIN printed: names, fields, word lists, decode rows ===== -/
def RX0 : String := "FrontDoor$Asking"
def TX0 : u_T := fun k => match k with
  | 0 => ("FrontDoor$Asking", "server", "LFrontDoor$Server;", true)
  | 1 => ("FrontDoor$Asking", "since", "I", true)
  | 2 => ("FrontDoor$Asking", "over", "I", true)
  | _ => ("FrontDoor$Asking", "fails", "Z", true)
def tyX0 : Nat → FieldType := fun k => match k with
  | 0 => .object "FrontDoor$Server"
  | 1 => .int
  | 2 => .int
  | _ => .boolean
theorem nmX0 : ∀ a, a < 4 → ∀ b, b < 4 → a ≠ b → (TX0 a).2.1 ≠ (TX0 b).2.1 := by decide +kernel
theorem tyX0_ok : ∀ k, k < 4 → parseFieldDescriptor (TX0 k).2.2.1 = some (tyX0 k) := by decide +kernel
abbrev cX0_init : ByteArray := prog_2_method_1_code
def yX0_init : MethodName := ⟨RX0, "<init>", "(LFrontDoor$Server;IIZ)V"⟩
def RX1 : String := "FrontDoor$Call"
def TX1 : u_T := fun k => match k with
  | 0 => ("FrontDoor$Call", "number", "I", true)
  | 1 => ("FrontDoor$Call", "key", "I", true)
  | 2 => ("FrontDoor$Call", "grade", "I", true)
  | 3 => ("FrontDoor$Call", "came", "I", true)
  | 4 => ("FrontDoor$Call", "due", "I", true)
  | 5 => ("FrontDoor$Call", "safe", "Z", true)
  | 6 => ("FrontDoor$Call", "state", "I", false)
  | 7 => ("FrontDoor$Call", "tried", "I", false)
  | 8 => ("FrontDoor$Call", "ended", "I", false)
  | 9 => ("FrontDoor$Call", "answerer", "I", false)
  | 10 => ("FrontDoor$Call", "first", "LFrontDoor$Asking;", false)
  | _ => ("FrontDoor$Call", "second", "LFrontDoor$Asking;", false)
def tyX1 : Nat → FieldType := fun k => match k with
  | 0 => .int
  | 1 => .int
  | 2 => .int
  | 3 => .int
  | 4 => .int
  | 5 => .boolean
  | 6 => .int
  | 7 => .int
  | 8 => .int
  | 9 => .int
  | 10 => .object "FrontDoor$Asking"
  | _ => .object "FrontDoor$Asking"
theorem nmX1 : ∀ a, a < 12 → ∀ b, b < 12 → a ≠ b → (TX1 a).2.1 ≠ (TX1 b).2.1 := by decide +kernel
theorem tyX1_ok : ∀ k, k < 12 → parseFieldDescriptor (TX1 k).2.2.1 = some (tyX1 k) := by decide +kernel
abbrev cX1_init : ByteArray := prog_3_method_1_code
def yX1_init : MethodName := ⟨RX1, "<init>", "(IIIIIZ)V"⟩
abbrev cX1_hasEnded : ByteArray := prog_3_method_2_code
def yX1_hasEnded : MethodName := ⟨RX1, "hasEnded", "()Z"⟩
abbrev cX1_goesAheadOf : ByteArray := prog_3_method_3_code
def yX1_goesAheadOf : MethodName := ⟨RX1, "goesAheadOf", "(LFrontDoor$Call;)Z"⟩
abbrev cX1_begin : ByteArray := prog_3_method_4_code
def yX1_begin : MethodName := ⟨RX1, "begin", "(LFrontDoor$Asking;)V"⟩
abbrev cX1_letGo : ByteArray := prog_3_method_5_code
def yX1_letGo : MethodName := ⟨RX1, "letGo", "(LFrontDoor$Asking;)V"⟩
abbrev cX1_callOffAll : ByteArray := prog_3_method_6_code
def yX1_callOffAll : MethodName := ⟨RX1, "callOffAll", "()V"⟩
abbrev cX1_tell : ByteArray := prog_3_method_7_code
def yX1_tell : MethodName := ⟨RX1, "tell", "(I)I"⟩
def RX2 : String := "FrontDoor$Server"
def TX2 : u_T := fun k => match k with
  | 0 => ("FrontDoor$Server", "number", "I", true)
  | 1 => ("FrontDoor$Server", "zone", "I", true)
  | 2 => ("FrontDoor$Server", "weight", "I", false)
  | 3 => ("FrontDoor$Server", "room", "I", false)
  | 4 => ("FrontDoor$Server", "pace", "I", false)
  | 5 => ("FrontDoor$Server", "breaks", "I", false)
  | 6 => ("FrontDoor$Server", "mute", "I", false)
  | 7 => ("FrontDoor$Server", "health", "I", false)
  | 8 => ("FrontDoor$Server", "open", "I", false)
  | 9 => ("FrontDoor$Server", "asked", "I", false)
  | 10 => ("FrontDoor$Server", "answers", "I", false)
  | 11 => ("FrontDoor$Server", "failures", "I", false)
  | 12 => ("FrontDoor$Server", "row", "I", false)
  | 13 => ("FrontDoor$Server", "until", "I", false)
  | 14 => ("FrontDoor$Server", "penalty", "I", false)
  | 15 => ("FrontDoor$Server", "outs", "I", false)
  | _ => ("FrontDoor$Server", "credit", "I", false)
def tyX2 : Nat → FieldType := fun k => match k with
  | 0 => .int
  | 1 => .int
  | 2 => .int
  | 3 => .int
  | 4 => .int
  | 5 => .int
  | 6 => .int
  | 7 => .int
  | 8 => .int
  | 9 => .int
  | 10 => .int
  | 11 => .int
  | 12 => .int
  | 13 => .int
  | 14 => .int
  | 15 => .int
  | _ => .int
theorem nmX2 : ∀ a, a < 17 → ∀ b, b < 17 → a ≠ b → (TX2 a).2.1 ≠ (TX2 b).2.1 := by decide +kernel
theorem tyX2_ok : ∀ k, k < 17 → parseFieldDescriptor (TX2 k).2.2.1 = some (tyX2 k) := by decide +kernel
abbrev cX2_init : ByteArray := prog_4_method_1_code
def yX2_init : MethodName := ⟨RX2, "<init>", "(IIIIII)V"⟩
abbrev cX2_mayBeAsked : ByteArray := prog_4_method_2_code
def yX2_mayBeAsked : MethodName := ⟨RX2, "mayBeAsked", "(I)Z"⟩
abbrev cX2_placeOfMark : ByteArray := prog_4_method_3_code
def yX2_placeOfMark : MethodName := ⟨RX2, "placeOfMark", "(I)I"⟩
abbrev cX2_wayFrom : ByteArray := prog_4_method_4_code
def yX2_wayFrom : MethodName := ⟨RX2, "wayFrom", "(I)I"⟩
abbrev cX2_takeAsking : ByteArray := prog_4_method_5_code
def yX2_takeAsking : MethodName := ⟨RX2, "takeAsking", "(I)LFrontDoor$Asking;"⟩
abbrev cX2_answer : ByteArray := prog_4_method_6_code
def yX2_answer : MethodName := ⟨RX2, "answer", "()V"⟩
abbrev cX2_goOut : ByteArray := prog_4_method_7_code
def yX2_goOut : MethodName := ⟨RX2, "goOut", "(I)V"⟩
abbrev cX2_change : ByteArray := prog_4_method_8_code
def yX2_change : MethodName := ⟨RX2, "change", "(II)I"⟩
abbrev cX2_tell : ByteArray := prog_4_method_9_code
def yX2_tell : MethodName := ⟨RX2, "tell", "(I)I"⟩
def RX3 : String := "FrontDoor"
def TX3 : u_T := fun k => match k with
  | 0 => ("FrontDoor", "servers", "Ljava/util/ArrayList;", true)
  | 1 => ("FrontDoor", "calls", "Ljava/util/ArrayList;", true)
  | 2 => ("FrontDoor", "live", "Ljava/util/ArrayList;", true)
  | 3 => ("FrontDoor", "line", "Ljava/util/ArrayList;", true)
  | 4 => ("FrontDoor", "refusals", "[I", true)
  | 5 => ("FrontDoor", "tick", "I", false)
  | 6 => ("FrontDoor", "ruleNow", "I", false)
  | 7 => ("FrontDoor", "limitNow", "I", false)
  | 8 => ("FrontDoor", "budgetNow", "I", false)
  | 9 => ("FrontDoor", "hedgeNow", "I", false)
  | 10 => ("FrontDoor", "agains", "I", false)
  | 11 => ("FrontDoor", "seconds", "I", false)
  | _ => ("FrontDoor", "endedSoFar", "I", false)
def tyX3 : Nat → FieldType := fun k => match k with
  | 0 => .object "java/util/ArrayList"
  | 1 => .object "java/util/ArrayList"
  | 2 => .object "java/util/ArrayList"
  | 3 => .object "java/util/ArrayList"
  | 4 => .array .int
  | 5 => .int
  | 6 => .int
  | 7 => .int
  | 8 => .int
  | 9 => .int
  | 10 => .int
  | 11 => .int
  | _ => .int
theorem nmX3 : ∀ a, a < 13 → ∀ b, b < 13 → a ≠ b → (TX3 a).2.1 ≠ (TX3 b).2.1 := by decide +kernel
theorem tyX3_ok : ∀ k, k < 13 → parseFieldDescriptor (TX3 k).2.2.1 = some (tyX3 k) := by decide +kernel
abbrev cX3_init : ByteArray := prog_1_method_1_code
def yX3_init : MethodName := ⟨RX3, "<init>", "()V"⟩
abbrev cX3_server : ByteArray := prog_1_method_2_code
def yX3_server : MethodName := ⟨RX3, "server", "(IIIII)I"⟩
abbrev cX3_set : ByteArray := prog_1_method_3_code
def yX3_set : MethodName := ⟨RX3, "set", "(III)I"⟩
abbrev cX3_drain : ByteArray := prog_1_method_4_code
def yX3_drain : MethodName := ⟨RX3, "drain", "(I)I"⟩
abbrev cX3_back : ByteArray := prog_1_method_5_code
def yX3_back : MethodName := ⟨RX3, "back", "(I)I"⟩
abbrev cX3_rule : ByteArray := prog_1_method_6_code
def yX3_rule : MethodName := ⟨RX3, "rule", "(I)I"⟩
abbrev cX3_limit : ByteArray := prog_1_method_7_code
def yX3_limit : MethodName := ⟨RX3, "limit", "(I)I"⟩
abbrev cX3_budget : ByteArray := prog_1_method_8_code
def yX3_budget : MethodName := ⟨RX3, "budget", "(I)I"⟩
abbrev cX3_hedge : ByteArray := prog_1_method_9_code
def yX3_hedge : MethodName := ⟨RX3, "hedge", "(I)I"⟩
abbrev cX3_call : ByteArray := prog_1_method_10_code
def yX3_call : MethodName := ⟨RX3, "call", "(IIIZ)I"⟩
abbrev cX3_off : ByteArray := prog_1_method_11_code
def yX3_off : MethodName := ⟨RX3, "off", "(I)I"⟩
abbrev cX3_ticks : ByteArray := prog_1_method_12_code
def yX3_ticks : MethodName := ⟨RX3, "ticks", "(I)I"⟩
abbrev cX3_pick : ByteArray := prog_1_method_13_code
def yX3_pick : MethodName := ⟨RX3, "pick", "(I)I"⟩
abbrev cX3_callOf : ByteArray := prog_1_method_14_code
def yX3_callOf : MethodName := ⟨RX3, "callOf", "(II)I"⟩
abbrev cX3_serverOf : ByteArray := prog_1_method_15_code
def yX3_serverOf : MethodName := ⟨RX3, "serverOf", "(II)I"⟩
abbrev cX3_mark : ByteArray := prog_1_method_16_code
def yX3_mark : MethodName := ⟨RX3, "mark", "(II)I"⟩
abbrev cX3_queue : ByteArray := prog_1_method_17_code
def yX3_queue : MethodName := ⟨RX3, "queue", "(I)I"⟩
abbrev cX3_share : ByteArray := prog_1_method_18_code
def yX3_share : MethodName := ⟨RX3, "share", "(I)I"⟩
abbrev cX3_count : ByteArray := prog_1_method_19_code
def yX3_count : MethodName := ⟨RX3, "count", "(I)I"⟩
abbrev cX3_serverAt : ByteArray := prog_1_method_20_code
def yX3_serverAt : MethodName := ⟨RX3, "serverAt", "(I)LFrontDoor$Server;"⟩
abbrev cX3_callAt : ByteArray := prog_1_method_21_code
def yX3_callAt : MethodName := ⟨RX3, "callAt", "(I)LFrontDoor$Call;"⟩
abbrev cX3_refuse : ByteArray := prog_1_method_22_code
def yX3_refuse : MethodName := ⟨RX3, "refuse", "(I)I"⟩
abbrev cX3_faultOf : ByteArray := prog_1_method_23_code
def yX3_faultOf : MethodName := ⟨RX3, "faultOf", "(III)I"⟩
abbrev cX3_leastOf : ByteArray := prog_1_method_24_code
def yX3_leastOf : MethodName := ⟨RX3, "leastOf", "(I)I"⟩
abbrev cX3_greatestOf : ByteArray := prog_1_method_25_code
def yX3_greatestOf : MethodName := ⟨RX3, "greatestOf", "(I)I"⟩
abbrev cX3_callsThatAre : ByteArray := prog_1_method_26_code
def yX3_callsThatAre : MethodName := ⟨RX3, "callsThatAre", "(I)I"⟩
abbrev cX3_askingsSoFar : ByteArray := prog_1_method_27_code
def yX3_askingsSoFar : MethodName := ⟨RX3, "askingsSoFar", "()I"⟩
abbrev cX3_openAskings : ByteArray := prog_1_method_28_code
def yX3_openAskings : MethodName := ⟨RX3, "openAskings", "()I"⟩
abbrev cX3_chosen : ByteArray := prog_1_method_29_code
def yX3_chosen : MethodName := ⟨RX3, "chosen", "(II)LFrontDoor$Server;"⟩
abbrev cX3_byTurn : ByteArray := prog_1_method_30_code
def yX3_byTurn : MethodName := ⟨RX3, "byTurn", "(I)LFrontDoor$Server;"⟩
abbrev cX3_byFewest : ByteArray := prog_1_method_31_code
def yX3_byFewest : MethodName := ⟨RX3, "byFewest", "(II)LFrontDoor$Server;"⟩
abbrev cX3_byRing : ByteArray := prog_1_method_32_code
def yX3_byRing : MethodName := ⟨RX3, "byRing", "(II)LFrontDoor$Server;"⟩
abbrev cX3_settleCredits : ByteArray := prog_1_method_33_code
def yX3_settleCredits : MethodName := ⟨RX3, "settleCredits", "(ILFrontDoor$Server;)V"⟩
abbrev cX3_askByRule : ByteArray := prog_1_method_34_code
def yX3_askByRule : MethodName := ⟨RX3, "askByRule", "(LFrontDoor$Call;)Z"⟩
abbrev cX3_joinLine : ByteArray := prog_1_method_35_code
def yX3_joinLine : MethodName := ⟨RX3, "joinLine", "(LFrontDoor$Call;)V"⟩
abbrev cX3_leaveLine : ByteArray := prog_1_method_36_code
def yX3_leaveLine : MethodName := ⟨RX3, "leaveLine", "(LFrontDoor$Call;)V"⟩
abbrev cX3_end : ByteArray := prog_1_method_37_code
def yX3_end : MethodName := ⟨RX3, "end", "(LFrontDoor$Call;I)V"⟩
abbrev cX3_dropEnded : ByteArray := prog_1_method_38_code
def yX3_dropEnded : MethodName := ⟨RX3, "dropEnded", "()V"⟩
abbrev cX3_passTick : ByteArray := prog_1_method_39_code
def yX3_passTick : MethodName := ⟨RX3, "passTick", "()V"⟩
abbrev cX3_takeWhatIsOver : ByteArray := prog_1_method_40_code
def yX3_takeWhatIsOver : MethodName := ⟨RX3, "takeWhatIsOver", "()V"⟩
abbrev cX3_takeAnswer : ByteArray := prog_1_method_41_code
def yX3_takeAnswer : MethodName := ⟨RX3, "takeAnswer", "(LFrontDoor$Call;LFrontDoor$Asking;)V"⟩
abbrev cX3_budgetHolds : ByteArray := prog_1_method_42_code
def yX3_budgetHolds : MethodName := ⟨RX3, "budgetHolds", "()Z"⟩
abbrev cX3_failureOf : ByteArray := prog_1_method_43_code
def yX3_failureOf : MethodName := ⟨RX3, "failureOf", "(LFrontDoor$Server;)V"⟩
abbrev cX3_oneMoreOutIsTooMany : ByteArray := prog_1_method_44_code
def yX3_oneMoreOutIsTooMany : MethodName := ⟨RX3, "oneMoreOutIsTooMany", "()Z"⟩
abbrev cX3_meetDues : ByteArray := prog_1_method_45_code
def yX3_meetDues : MethodName := ⟨RX3, "meetDues", "()V"⟩
abbrev cX3_failByDue : ByteArray := prog_1_method_46_code
def yX3_failByDue : MethodName := ⟨RX3, "failByDue", "(LFrontDoor$Call;)V"⟩
abbrev cX3_tryThoseOut : ByteArray := prog_1_method_47_code
def yX3_tryThoseOut : MethodName := ⟨RX3, "tryThoseOut", "()V"⟩
abbrev cX3_hedgeSlow : ByteArray := prog_1_method_48_code
def yX3_hedgeSlow : MethodName := ⟨RX3, "hedgeSlow", "()V"⟩
abbrev cX3_askQueued : ByteArray := prog_1_method_49_code
def yX3_askQueued : MethodName := ⟨RX3, "askQueued", "()V"⟩
abbrev cX3_letDrainedGo : ByteArray := prog_1_method_50_code
def yX3_letDrainedGo : MethodName := ⟨RX3, "letDrainedGo", "()V"⟩
def RX4 : String := "FrontDoorModel"
def TX4 : u_T := fun k => match k with
  | 0 => ("FrontDoorModel", "refusals", "[I", true)
  | 1 => ("FrontDoorModel", "tick", "I", false)
  | 2 => ("FrontDoorModel", "servers", "I", false)
  | 3 => ("FrontDoorModel", "calls", "I", false)
  | 4 => ("FrontDoorModel", "rule", "I", false)
  | 5 => ("FrontDoorModel", "limit", "I", false)
  | 6 => ("FrontDoorModel", "budget", "I", false)
  | 7 => ("FrontDoorModel", "hedge", "I", false)
  | 8 => ("FrontDoorModel", "askings", "I", false)
  | 9 => ("FrontDoorModel", "agains", "I", false)
  | 10 => ("FrontDoorModel", "seconds", "I", false)
  | 11 => ("FrontDoorModel", "weight", "[I", true)
  | 12 => ("FrontDoorModel", "zone", "[I", true)
  | 13 => ("FrontDoorModel", "room", "[I", true)
  | 14 => ("FrontDoorModel", "pace", "[I", true)
  | 15 => ("FrontDoorModel", "breaks", "[I", true)
  | 16 => ("FrontDoorModel", "mute", "[I", true)
  | 17 => ("FrontDoorModel", "health", "[I", true)
  | 18 => ("FrontDoorModel", "open", "[I", true)
  | 19 => ("FrontDoorModel", "asked", "[I", true)
  | 20 => ("FrontDoorModel", "answers", "[I", true)
  | 21 => ("FrontDoorModel", "failures", "[I", true)
  | 22 => ("FrontDoorModel", "row", "[I", true)
  | 23 => ("FrontDoorModel", "until", "[I", true)
  | 24 => ("FrontDoorModel", "penalty", "[I", true)
  | 25 => ("FrontDoorModel", "outs", "[I", true)
  | 26 => ("FrontDoorModel", "credit", "[I", true)
  | 27 => ("FrontDoorModel", "key", "[I", true)
  | 28 => ("FrontDoorModel", "grade", "[I", true)
  | 29 => ("FrontDoorModel", "due", "[I", true)
  | 30 => ("FrontDoorModel", "state", "[I", true)
  | 31 => ("FrontDoorModel", "asks", "[I", true)
  | 32 => ("FrontDoorModel", "tried", "[I", true)
  | 33 => ("FrontDoorModel", "came", "[I", true)
  | 34 => ("FrontDoorModel", "ended", "[I", true)
  | 35 => ("FrontDoorModel", "by", "[I", true)
  | 36 => ("FrontDoorModel", "safe", "[Z", true)
  | 37 => ("FrontDoorModel", "at", "[I", true)
  | 38 => ("FrontDoorModel", "since", "[I", true)
  | 39 => ("FrontDoorModel", "over", "[I", true)
  | 40 => ("FrontDoorModel", "fails", "[Z", true)
  | 41 => ("FrontDoorModel", "queue", "[I", true)
  | _ => ("FrontDoorModel", "queued", "I", false)
def tyX4 : Nat → FieldType := fun k => match k with
  | 0 => .array .int
  | 1 => .int
  | 2 => .int
  | 3 => .int
  | 4 => .int
  | 5 => .int
  | 6 => .int
  | 7 => .int
  | 8 => .int
  | 9 => .int
  | 10 => .int
  | 11 => .array .int
  | 12 => .array .int
  | 13 => .array .int
  | 14 => .array .int
  | 15 => .array .int
  | 16 => .array .int
  | 17 => .array .int
  | 18 => .array .int
  | 19 => .array .int
  | 20 => .array .int
  | 21 => .array .int
  | 22 => .array .int
  | 23 => .array .int
  | 24 => .array .int
  | 25 => .array .int
  | 26 => .array .int
  | 27 => .array .int
  | 28 => .array .int
  | 29 => .array .int
  | 30 => .array .int
  | 31 => .array .int
  | 32 => .array .int
  | 33 => .array .int
  | 34 => .array .int
  | 35 => .array .int
  | 36 => .array .boolean
  | 37 => .array .int
  | 38 => .array .int
  | 39 => .array .int
  | 40 => .array .boolean
  | 41 => .array .int
  | _ => .int
theorem nmX4 : ∀ a, a < 43 → ∀ b, b < 43 → a ≠ b → (TX4 a).2.1 ≠ (TX4 b).2.1 := by decide +kernel
theorem tyX4_ok : ∀ k, k < 43 → parseFieldDescriptor (TX4 k).2.2.1 = some (tyX4 k) := by decide +kernel
abbrev cX4_init : ByteArray := prog_6_method_1_code
def yX4_init : MethodName := ⟨RX4, "<init>", "()V"⟩
abbrev cX4_refuse : ByteArray := prog_6_method_2_code
def yX4_refuse : MethodName := ⟨RX4, "refuse", "(I)I"⟩
abbrev cX4_isIn : ByteArray := prog_6_method_3_code
def yX4_isIn : MethodName := ⟨RX4, "isIn", "(II)Z"⟩
abbrev cX4_isServer : ByteArray := prog_6_method_4_code
def yX4_isServer : MethodName := ⟨RX4, "isServer", "(I)Z"⟩
abbrev cX4_isCall : ByteArray := prog_6_method_5_code
def yX4_isCall : MethodName := ⟨RX4, "isCall", "(I)Z"⟩
abbrev cX4_server : ByteArray := prog_6_method_6_code
def yX4_server : MethodName := ⟨RX4, "server", "(IIIII)I"⟩
abbrev cX4_set : ByteArray := prog_6_method_7_code
def yX4_set : MethodName := ⟨RX4, "set", "(III)I"⟩
abbrev cX4_drain : ByteArray := prog_6_method_8_code
def yX4_drain : MethodName := ⟨RX4, "drain", "(I)I"⟩
abbrev cX4_back : ByteArray := prog_6_method_9_code
def yX4_back : MethodName := ⟨RX4, "back", "(I)I"⟩
abbrev cX4_rule : ByteArray := prog_6_method_10_code
def yX4_rule : MethodName := ⟨RX4, "rule", "(I)I"⟩
abbrev cX4_limit : ByteArray := prog_6_method_11_code
def yX4_limit : MethodName := ⟨RX4, "limit", "(I)I"⟩
abbrev cX4_budget : ByteArray := prog_6_method_12_code
def yX4_budget : MethodName := ⟨RX4, "budget", "(I)I"⟩
abbrev cX4_hedge : ByteArray := prog_6_method_13_code
def yX4_hedge : MethodName := ⟨RX4, "hedge", "(I)I"⟩
abbrev cX4_mays : ByteArray := prog_6_method_14_code
def yX4_mays : MethodName := ⟨RX4, "mays", "(I)I"⟩
abbrev cX4_fewest : ByteArray := prog_6_method_15_code
def yX4_fewest : MethodName := ⟨RX4, "fewest", "(I)I"⟩
abbrev cX4_markOf : ByteArray := prog_6_method_16_code
def yX4_markOf : MethodName := ⟨RX4, "markOf", "(II)I"⟩
abbrev cX4_onRing : ByteArray := prog_6_method_17_code
def yX4_onRing : MethodName := ⟨RX4, "onRing", "(II)I"⟩
abbrev cX4_near : ByteArray := prog_6_method_18_code
def yX4_near : MethodName := ⟨RX4, "near", "(II)I"⟩
abbrev cX4_byTurns : ByteArray := prog_6_method_19_code
def yX4_byTurns : MethodName := ⟨RX4, "byTurns", "(IZ)I"⟩
abbrev cX4_picked : ByteArray := prog_6_method_20_code
def yX4_picked : MethodName := ⟨RX4, "picked", "(IIZ)I"⟩
abbrev cX4_ask : ByteArray := prog_6_method_21_code
def yX4_ask : MethodName := ⟨RX4, "ask", "(II)V"⟩
abbrev cX4_asksFor : ByteArray := prog_6_method_22_code
def yX4_asksFor : MethodName := ⟨RX4, "asksFor", "(I)Z"⟩
abbrev cX4_call : ByteArray := prog_6_method_23_code
def yX4_call : MethodName := ⟨RX4, "call", "(IIIZ)I"⟩
abbrev cX4_outsNow : ByteArray := prog_6_method_24_code
def yX4_outsNow : MethodName := ⟨RX4, "outsNow", "(Z)I"⟩
abbrev cX4_failure : ByteArray := prog_6_method_25_code
def yX4_failure : MethodName := ⟨RX4, "failure", "(I)V"⟩
abbrev cX4_answer : ByteArray := prog_6_method_26_code
def yX4_answer : MethodName := ⟨RX4, "answer", "(I)V"⟩
abbrev cX4_takes : ByteArray := prog_6_method_27_code
def yX4_takes : MethodName := ⟨RX4, "takes", "(II)V"⟩
abbrev cX4_ends : ByteArray := prog_6_method_28_code
def yX4_ends : MethodName := ⟨RX4, "ends", "(II)V"⟩
abbrev cX4_off : ByteArray := prog_6_method_29_code
def yX4_off : MethodName := ⟨RX4, "off", "(I)I"⟩
abbrev cX4_comesBack : ByteArray := prog_6_method_30_code
def yX4_comesBack : MethodName := ⟨RX4, "comesBack", "(I)Z"⟩
abbrev cX4_isDue : ByteArray := prog_6_method_31_code
def yX4_isDue : MethodName := ⟨RX4, "isDue", "(I)Z"⟩
abbrev cX4_hedges : ByteArray := prog_6_method_32_code
def yX4_hedges : MethodName := ⟨RX4, "hedges", "(I)V"⟩
abbrev cX4_isAhead : ByteArray := prog_6_method_33_code
def yX4_isAhead : MethodName := ⟨RX4, "isAhead", "(II)Z"⟩
abbrev cX4_line : ByteArray := prog_6_method_34_code
def yX4_line : MethodName := ⟨RX4, "line", "()V"⟩
abbrev cX4_goesOn : ByteArray := prog_6_method_35_code
def yX4_goesOn : MethodName := ⟨RX4, "goesOn", "()I"⟩
abbrev cX4_ticks : ByteArray := prog_6_method_36_code
def yX4_ticks : MethodName := ⟨RX4, "ticks", "(I)I"⟩
abbrev cX4_pick : ByteArray := prog_6_method_37_code
def yX4_pick : MethodName := ⟨RX4, "pick", "(I)I"⟩
abbrev cX4_callOf : ByteArray := prog_6_method_38_code
def yX4_callOf : MethodName := ⟨RX4, "callOf", "(II)I"⟩
abbrev cX4_serverOf : ByteArray := prog_6_method_39_code
def yX4_serverOf : MethodName := ⟨RX4, "serverOf", "(II)I"⟩
abbrev cX4_mark : ByteArray := prog_6_method_40_code
def yX4_mark : MethodName := ⟨RX4, "mark", "(II)I"⟩
abbrev cX4_queue : ByteArray := prog_6_method_41_code
def yX4_queue : MethodName := ⟨RX4, "queue", "(I)I"⟩
abbrev cX4_share : ByteArray := prog_6_method_42_code
def yX4_share : MethodName := ⟨RX4, "share", "(I)I"⟩
abbrev cX4_inState : ByteArray := prog_6_method_43_code
def yX4_inState : MethodName := ⟨RX4, "inState", "(I)I"⟩
abbrev cX4_count : ByteArray := prog_6_method_44_code
def yX4_count : MethodName := ⟨RX4, "count", "(I)I"⟩
def RJx145de : String := "java/io/Serializable"
def TJx145de : u_T := fun k => match k with
  | _ => ("", "", "", false)
def tyJx145de : Nat → FieldType := fun k => match k with
  | _ => .int
theorem nmJx145de : ∀ a, a < 0 → ∀ b, b < 0 → a ≠ b → (TJx145de a).2.1 ≠ (TJx145de b).2.1 := by decide +kernel
theorem tyJx145de_ok : ∀ k, k < 0 → parseFieldDescriptor (TJx145de k).2.2.1 = some (tyJx145de k) := by decide +kernel
def RJx8e188 : String := "java/lang/Cloneable"
def TJx8e188 : u_T := fun k => match k with
  | _ => ("", "", "", false)
def tyJx8e188 : Nat → FieldType := fun k => match k with
  | _ => .int
theorem nmJx8e188 : ∀ a, a < 0 → ∀ b, b < 0 → a ≠ b → (TJx8e188 a).2.1 ≠ (TJx8e188 b).2.1 := by decide +kernel
theorem tyJx8e188_ok : ∀ k, k < 0 → parseFieldDescriptor (TJx8e188 k).2.2.1 = some (tyJx8e188 k) := by decide +kernel
def RJxab1ab : String := "java/lang/Iterable"
def TJxab1ab : u_T := fun k => match k with
  | _ => ("", "", "", false)
def tyJxab1ab : Nat → FieldType := fun k => match k with
  | _ => .int
theorem nmJxab1ab : ∀ a, a < 0 → ∀ b, b < 0 → a ≠ b → (TJxab1ab a).2.1 ≠ (TJxab1ab b).2.1 := by decide +kernel
theorem tyJxab1ab_ok : ∀ k, k < 0 → parseFieldDescriptor (TJxab1ab k).2.2.1 = some (tyJxab1ab k) := by decide +kernel
def RJ9 : String := "java/lang/Math"
def TJ9 : u_T := fun k => match k with
  | _ => ("", "", "", false)
def tyJ9 : Nat → FieldType := fun k => match k with
  | _ => .int
theorem nmJ9 : ∀ a, a < 0 → ∀ b, b < 0 → a ≠ b → (TJ9 a).2.1 ≠ (TJ9 b).2.1 := by decide +kernel
theorem tyJ9_ok : ∀ k, k < 0 → parseFieldDescriptor (TJ9 k).2.2.1 = some (tyJ9 k) := by decide +kernel
abbrev cJ9_max_7cf53 : ByteArray := prog_10_method_65_code
def yJ9_max_7cf53 : MethodName := ⟨RJ9, "max", "(II)I"⟩
abbrev cJ9_min_7cf53 : ByteArray := prog_10_method_69_code
def yJ9_min_7cf53 : MethodName := ⟨RJ9, "min", "(II)I"⟩
def RJ10 : String := "java/lang/System"
def TJ10 : u_T := fun k => match k with
  | _ => ("", "", "", false)
def tyJ10 : Nat → FieldType := fun k => match k with
  | _ => .int
theorem nmJ10 : ∀ a, a < 0 → ∀ b, b < 0 → a ≠ b → (TJ10 a).2.1 ≠ (TJ10 b).2.1 := by decide +kernel
theorem tyJ10_ok : ∀ k, k < 0 → parseFieldDescriptor (TJ10 k).2.2.1 = some (tyJ10 k) := by decide +kernel
def RJxa1e45 : String := "java/util/AbstractCollection"
def TJxa1e45 : u_T := fun k => match k with
  | _ => ("", "", "", false)
def tyJxa1e45 : Nat → FieldType := fun k => match k with
  | _ => .int
theorem nmJxa1e45 : ∀ a, a < 0 → ∀ b, b < 0 → a ≠ b → (TJxa1e45 a).2.1 ≠ (TJxa1e45 b).2.1 := by decide +kernel
theorem tyJxa1e45_ok : ∀ k, k < 0 → parseFieldDescriptor (TJxa1e45 k).2.2.1 = some (tyJxa1e45 k) := by decide +kernel
abbrev cJxa1e45_init_da8c8 : ByteArray := prog_12_method_1_code
def yJxa1e45_init_da8c8 : MethodName := ⟨RJxa1e45, "<init>", "()V"⟩
def RJxc12de : String := "java/util/AbstractList"
def TJxc12de : u_T := fun k => match k with
  | _ => ("", "", "", false)
def tyJxc12de : Nat → FieldType := fun k => match k with
  | _ => .int
theorem nmJxc12de : ∀ a, a < 0 → ∀ b, b < 0 → a ≠ b → (TJxc12de a).2.1 ≠ (TJxc12de b).2.1 := by decide +kernel
theorem tyJxc12de_ok : ∀ k, k < 0 → parseFieldDescriptor (TJxc12de k).2.2.1 = some (tyJxc12de k) := by decide +kernel
abbrev cJxc12de_init_da8c8 : ByteArray := prog_13_method_1_code
def yJxc12de_init_da8c8 : MethodName := ⟨RJxc12de, "<init>", "()V"⟩
def RJx4a65c : String := "java/util/ArrayList"
def TJx4a65c : u_T := fun k => match k with
  | 0 => ("java/util/AbstractList", "modCount", "I", false)
  | 1 => ("java/util/ArrayList", "elementData", "[Ljava/lang/Object;", false)
  | _ => ("java/util/ArrayList", "size", "I", false)
def tyJx4a65c : Nat → FieldType := fun k => match k with
  | 0 => .int
  | 1 => .array (.object "java/lang/Object")
  | _ => .int
theorem nmJx4a65c : ∀ a, a < 3 → ∀ b, b < 3 → a ≠ b → (TJx4a65c a).2.1 ≠ (TJx4a65c b).2.1 := by decide +kernel
theorem tyJx4a65c_ok : ∀ k, k < 3 → parseFieldDescriptor (TJx4a65c k).2.2.1 = some (tyJx4a65c k) := by decide +kernel
abbrev cJx4a65c_init_da8c8 : ByteArray := prog_14_method_2_code
def yJx4a65c_init_da8c8 : MethodName := ⟨RJx4a65c, "<init>", "()V"⟩
abbrev cJx4a65c_grow_92f84 : ByteArray := prog_14_method_6_code
def yJx4a65c_grow_92f84 : MethodName := ⟨RJx4a65c, "grow", "(I)[Ljava/lang/Object;"⟩
abbrev cJx4a65c_grow_d5877 : ByteArray := prog_14_method_7_code
def yJx4a65c_grow_d5877 : MethodName := ⟨RJx4a65c, "grow", "()[Ljava/lang/Object;"⟩
abbrev cJx4a65c_size_8abf5 : ByteArray := prog_14_method_8_code
def yJx4a65c_size_8abf5 : MethodName := ⟨RJx4a65c, "size", "()I"⟩
abbrev cJx4a65c_elementData_915e3 : ByteArray := prog_14_method_18_code
def yJx4a65c_elementData_915e3 : MethodName := ⟨RJx4a65c, "elementData", "(I)Ljava/lang/Object;"⟩
abbrev cJx4a65c_get_915e3 : ByteArray := prog_14_method_20_code
def yJx4a65c_get_915e3 : MethodName := ⟨RJx4a65c, "get", "(I)Ljava/lang/Object;"⟩
abbrev cJx4a65c_add_72be8 : ByteArray := prog_14_method_24_code
def yJx4a65c_add_72be8 : MethodName := ⟨RJx4a65c, "add", "(Ljava/lang/Object;[Ljava/lang/Object;I)V"⟩
abbrev cJx4a65c_add_9ea2d : ByteArray := prog_14_method_25_code
def yJx4a65c_add_9ea2d : MethodName := ⟨RJx4a65c, "add", "(Ljava/lang/Object;)Z"⟩
abbrev cJx4a65c_add_7a177 : ByteArray := prog_14_method_26_code
def yJx4a65c_add_7a177 : MethodName := ⟨RJx4a65c, "add", "(ILjava/lang/Object;)V"⟩
abbrev cJx4a65c_remove_915e3 : ByteArray := prog_14_method_29_code
def yJx4a65c_remove_915e3 : MethodName := ⟨RJx4a65c, "remove", "(I)Ljava/lang/Object;"⟩
abbrev cJx4a65c_fastRemove_b59b0 : ByteArray := prog_14_method_39_code
def yJx4a65c_fastRemove_b59b0 : MethodName := ⟨RJx4a65c, "fastRemove", "([Ljava/lang/Object;I)V"⟩
abbrev cJx4a65c_rangeCheckForAdd_d00df : ByteArray := prog_14_method_45_code
def yJx4a65c_rangeCheckForAdd_d00df : MethodName := ⟨RJx4a65c, "rangeCheckForAdd", "(I)V"⟩
def RJ7 : String := "java/util/Arrays"
def TJ7 : u_T := fun k => match k with
  | _ => ("", "", "", false)
def tyJ7 : Nat → FieldType := fun k => match k with
  | _ => .int
theorem nmJ7 : ∀ a, a < 0 → ∀ b, b < 0 → a ≠ b → (TJ7 a).2.1 ≠ (TJ7 b).2.1 := by decide +kernel
theorem tyJ7_ok : ∀ k, k < 0 → parseFieldDescriptor (TJ7 k).2.2.1 = some (tyJ7 k) := by decide +kernel
abbrev cJ7_copyOf_1904c : ByteArray := prog_15_method_119_code
def yJ7_copyOf_1904c : MethodName := ⟨RJ7, "copyOf", "([Ljava/lang/Object;I)[Ljava/lang/Object;"⟩
abbrev cJ7_copyOf_6403c : ByteArray := prog_15_method_120_code
def yJ7_copyOf_6403c : MethodName := ⟨RJ7, "copyOf", "([Ljava/lang/Object;ILjava/lang/Class;)[Ljava/lang/Object;"⟩
def RJx5ef63 : String := "java/util/Collection"
def TJx5ef63 : u_T := fun k => match k with
  | _ => ("", "", "", false)
def tyJx5ef63 : Nat → FieldType := fun k => match k with
  | _ => .int
theorem nmJx5ef63 : ∀ a, a < 0 → ∀ b, b < 0 → a ≠ b → (TJx5ef63 a).2.1 ≠ (TJx5ef63 b).2.1 := by decide +kernel
theorem tyJx5ef63_ok : ∀ k, k < 0 → parseFieldDescriptor (TJx5ef63 k).2.2.1 = some (tyJx5ef63 k) := by decide +kernel
def RJxbd725 : String := "java/util/List"
def TJxbd725 : u_T := fun k => match k with
  | _ => ("", "", "", false)
def tyJxbd725 : Nat → FieldType := fun k => match k with
  | _ => .int
theorem nmJxbd725 : ∀ a, a < 0 → ∀ b, b < 0 → a ≠ b → (TJxbd725 a).2.1 ≠ (TJxbd725 b).2.1 := by decide +kernel
theorem tyJxbd725_ok : ∀ k, k < 0 → parseFieldDescriptor (TJxbd725 k).2.2.1 = some (tyJxbd725 k) := by decide +kernel
def RJ15 : String := "java/util/Objects"
def TJ15 : u_T := fun k => match k with
  | _ => ("", "", "", false)
def tyJ15 : Nat → FieldType := fun k => match k with
  | _ => .int
theorem nmJ15 : ∀ a, a < 0 → ∀ b, b < 0 → a ≠ b → (TJ15 a).2.1 ≠ (TJ15 b).2.1 := by decide +kernel
theorem tyJ15_ok : ∀ k, k < 0 → parseFieldDescriptor (TJ15 k).2.2.1 = some (tyJ15 k) := by decide +kernel
abbrev cJ15_checkIndex_7cf53 : ByteArray := prog_18_method_17_code
def yJ15_checkIndex_7cf53 : MethodName := ⟨RJ15, "checkIndex", "(II)I"⟩
def RJxf0a74 : String := "java/util/RandomAccess"
def TJxf0a74 : u_T := fun k => match k with
  | _ => ("", "", "", false)
def tyJxf0a74 : Nat → FieldType := fun k => match k with
  | _ => .int
theorem nmJxf0a74 : ∀ a, a < 0 → ∀ b, b < 0 → a ≠ b → (TJxf0a74 a).2.1 ≠ (TJxf0a74 b).2.1 := by decide +kernel
theorem tyJxf0a74_ok : ∀ k, k < 0 → parseFieldDescriptor (TJxf0a74 k).2.2.1 = some (tyJxf0a74 k) := by decide +kernel
def RJxa66e6 : String := "java/util/SequencedCollection"
def TJxa66e6 : u_T := fun k => match k with
  | _ => ("", "", "", false)
def tyJxa66e6 : Nat → FieldType := fun k => match k with
  | _ => .int
theorem nmJxa66e6 : ∀ a, a < 0 → ∀ b, b < 0 → a ≠ b → (TJxa66e6 a).2.1 ≠ (TJxa66e6 b).2.1 := by decide +kernel
theorem tyJxa66e6_ok : ∀ k, k < 0 → parseFieldDescriptor (TJxa66e6 k).2.2.1 = some (tyJxa66e6 k) := by decide +kernel
def RJ8 : String := "jdk/internal/util/ArraysSupport"
def TJ8 : u_T := fun k => match k with
  | _ => ("", "", "", false)
def tyJ8 : Nat → FieldType := fun k => match k with
  | _ => .int
theorem nmJ8 : ∀ a, a < 0 → ∀ b, b < 0 → a ≠ b → (TJ8 a).2.1 ≠ (TJ8 b).2.1 := by decide +kernel
theorem tyJ8_ok : ∀ k, k < 0 → parseFieldDescriptor (TJ8 k).2.2.1 = some (tyJ8 k) := by decide +kernel
abbrev cJ8_newLength_cabcc : ByteArray := prog_21_method_27_code
def yJ8_newLength_cabcc : MethodName := ⟨RJ8, "newLength", "(III)I"⟩
abbrev cJ8_hugeLength_7cf53 : ByteArray := prog_21_method_28_code
def yJ8_hugeLength_7cf53 : MethodName := ⟨RJ8, "hugeLength", "(II)I"⟩
def RJ3 : String := "jdk/internal/util/Preconditions"
def TJ3 : u_T := fun k => match k with
  | _ => ("", "", "", false)
def tyJ3 : Nat → FieldType := fun k => match k with
  | _ => .int
theorem nmJ3 : ∀ a, a < 0 → ∀ b, b < 0 → a ≠ b → (TJ3 a).2.1 ≠ (TJ3 b).2.1 := by decide +kernel
theorem tyJ3_ok : ∀ k, k < 0 → parseFieldDescriptor (TJ3 k).2.2.1 = some (tyJ3 k) := by decide +kernel
abbrev cJ3_checkIndex_8e157 : ByteArray := prog_22_method_11_code
def yJ3_checkIndex_8e157 : MethodName := ⟨RJ3, "checkIndex", "(IILjava/util/function/BiFunction;)I"⟩
def RL : String := "FrontDoorLaw"
abbrev cL_law : ByteArray := code
def yL_law : MethodName := ⟨RL, "law", "([I)Z"⟩
abbrev vwCl : List vw_C := [(RJx4a65c, TJx4a65c, 3), (RX0, TX0, 4), (RX1, TX1, 12), (RX2, TX2, 17), (RX3, TX3, 13), (RX4, TX4, 43)]
end
section
/-! the words that hold at every state of the tables -/
def tb : List Cond := lw_tbl.filter goodWord
theorem tb_good : GoodIn tb tb := fun w h => ⟨h, good_of_word (List.mem_filter.mp h).2⟩
theorem tb_in {w : Cond} (i : Nat) (h : lw_tbl[i]? = some w) (g : goodWord w = true) : w ∈ tb := List.mem_filter.mpr ⟨List.mem_of_getElem? h, g⟩
theorem tb_lw {w : Cond} (h : w ∈ tb) : w ∈ lw_tbl := (List.mem_filter.mp h).1
theorem tb_pl (ws : List Cond) (ps : List Nat) (hp : ws = ps.filterMap (fun i => lw_tbl[i]?)) (g : ws.all goodWord = true) : ∀ w ∈ ws, w ∈ tb := by
  intro w hw
  have h1 := List.all_eq_true.mp g w hw
  rw [hp] at hw
  obtain ⟨i, -, hi⟩ := List.mem_filterMap.mp hw
  exact List.mem_filter.mpr ⟨List.mem_of_getElem? hi, h1⟩
set_option maxRecDepth 20000 in
theorem inX0 : ∀ w ∈ u_ws RX0 TX0 4, w ∈ tb := tb_pl _ [463, 465, 467, 469] (by decide +kernel) (by decide +kernel)
set_option maxRecDepth 20000 in
theorem inX1 : ∀ w ∈ u_ws RX1 TX1 12, w ∈ tb := tb_pl _ [379, 381, 383, 385, 387, 389, 391, 393, 395, 397, 399, 401] (by decide +kernel) (by decide +kernel)
set_option maxRecDepth 20000 in
theorem inX2 : ∀ w ∈ u_ws RX2 TX2 17, w ∈ tb := tb_pl _ [194, 196, 198, 200, 202, 204, 206, 208, 210, 212, 214, 216, 218, 220, 222, 224, 226] (by decide +kernel) (by decide +kernel)
set_option maxRecDepth 20000 in
theorem inX3 : ∀ w ∈ u_ws RX3 TX3 13, w ∈ tb := tb_pl _ [118, 120, 122, 124, 126, 128, 130, 132, 134, 136, 138, 140, 142] (by decide +kernel) (by decide +kernel)
set_option maxRecDepth 20000 in
theorem inX4 : ∀ w ∈ u_ws RX4 TX4 43, w ∈ tb := tb_pl _ [689, 691, 693, 695, 697, 699, 701, 703, 705, 707, 709, 711, 713, 715, 717, 719, 721, 723, 725, 727, 729, 731, 733, 735, 737, 739, 741, 743, 745, 747, 749, 751, 753, 755, 757, 759, 761, 763, 765, 767, 769, 771, 773] (by decide +kernel) (by decide +kernel)
set_option maxRecDepth 20000 in
theorem inJx4a65c : ∀ w ∈ u_ws RJx4a65c TJx4a65c 3, w ∈ tb := tb_pl _ [102, 98, 100] (by decide +kernel) (by decide +kernel)
theorem iw_0 : (Cond.selects RX3 yX3_refuse yX3_refuse) ∈ tb := tb_in 0 (by decide +kernel) (by decide +kernel)
theorem iw_1 : (Cond.selects RJx4a65c yJx4a65c_add_72be8 yJx4a65c_add_72be8) ∈ tb := tb_in 1 (by decide +kernel) (by decide +kernel)
theorem iw_2 : (Cond.selects RJx4a65c yJx4a65c_grow_d5877 yJx4a65c_grow_d5877) ∈ tb := tb_in 2 (by decide +kernel) (by decide +kernel)
theorem iw_3 : (Cond.selects RJx4a65c yJx4a65c_grow_92f84 yJx4a65c_grow_92f84) ∈ tb := tb_in 3 (by decide +kernel) (by decide +kernel)
theorem iw_4 : (Cond.selects RX3 yX3_serverAt yX3_serverAt) ∈ tb := tb_in 4 (by decide +kernel) (by decide +kernel)
theorem iw_5 : (Cond.selects RX3 yX3_askByRule yX3_askByRule) ∈ tb := tb_in 5 (by decide +kernel) (by decide +kernel)
theorem iw_6 : (Cond.selects RX3 yX3_chosen yX3_chosen) ∈ tb := tb_in 6 (by decide +kernel) (by decide +kernel)
theorem iw_7 : (Cond.selects RX3 yX3_byTurn yX3_byTurn) ∈ tb := tb_in 7 (by decide +kernel) (by decide +kernel)
theorem iw_8 : (Cond.selects RX3 yX3_byRing yX3_byRing) ∈ tb := tb_in 8 (by decide +kernel) (by decide +kernel)
theorem iw_9 : (Cond.selects RX3 yX3_byFewest yX3_byFewest) ∈ tb := tb_in 9 (by decide +kernel) (by decide +kernel)
theorem iw_10 : (Cond.selects RX3 yX3_settleCredits yX3_settleCredits) ∈ tb := tb_in 10 (by decide +kernel) (by decide +kernel)
theorem iw_11 : (Cond.selects RX3 yX3_joinLine yX3_joinLine) ∈ tb := tb_in 11 (by decide +kernel) (by decide +kernel)
theorem iw_12 : (Cond.selects RJx4a65c yJx4a65c_rangeCheckForAdd_d00df yJx4a65c_rangeCheckForAdd_d00df) ∈ tb := tb_in 12 (by decide +kernel) (by decide +kernel)
theorem iw_13 : (Cond.selects RX3 yX3_callAt yX3_callAt) ∈ tb := tb_in 13 (by decide +kernel) (by decide +kernel)
theorem iw_14 : (Cond.selects RX3 yX3_leaveLine yX3_leaveLine) ∈ tb := tb_in 14 (by decide +kernel) (by decide +kernel)
theorem iw_15 : (Cond.selects RJx4a65c yJx4a65c_fastRemove_b59b0 yJx4a65c_fastRemove_b59b0) ∈ tb := tb_in 15 (by decide +kernel) (by decide +kernel)
theorem iw_16 : (Cond.selects RX3 yX3_end yX3_end) ∈ tb := tb_in 16 (by decide +kernel) (by decide +kernel)
theorem iw_17 : (Cond.selects RX3 yX3_dropEnded yX3_dropEnded) ∈ tb := tb_in 17 (by decide +kernel) (by decide +kernel)
theorem iw_18 : (Cond.selects RX3 yX3_passTick yX3_passTick) ∈ tb := tb_in 18 (by decide +kernel) (by decide +kernel)
theorem iw_19 : (Cond.selects RX3 yX3_takeWhatIsOver yX3_takeWhatIsOver) ∈ tb := tb_in 19 (by decide +kernel) (by decide +kernel)
theorem iw_20 : (Cond.selects RX3 yX3_takeAnswer yX3_takeAnswer) ∈ tb := tb_in 20 (by decide +kernel) (by decide +kernel)
theorem iw_21 : (Cond.selects RX3 yX3_failureOf yX3_failureOf) ∈ tb := tb_in 21 (by decide +kernel) (by decide +kernel)
theorem iw_22 : (Cond.selects RX3 yX3_oneMoreOutIsTooMany yX3_oneMoreOutIsTooMany) ∈ tb := tb_in 22 (by decide +kernel) (by decide +kernel)
theorem iw_23 : (Cond.selects RX3 yX3_budgetHolds yX3_budgetHolds) ∈ tb := tb_in 23 (by decide +kernel) (by decide +kernel)
theorem iw_24 : (Cond.selects RX3 yX3_meetDues yX3_meetDues) ∈ tb := tb_in 24 (by decide +kernel) (by decide +kernel)
theorem iw_25 : (Cond.selects RX3 yX3_failByDue yX3_failByDue) ∈ tb := tb_in 25 (by decide +kernel) (by decide +kernel)
theorem iw_26 : (Cond.selects RX3 yX3_tryThoseOut yX3_tryThoseOut) ∈ tb := tb_in 26 (by decide +kernel) (by decide +kernel)
theorem iw_27 : (Cond.selects RX3 yX3_hedgeSlow yX3_hedgeSlow) ∈ tb := tb_in 27 (by decide +kernel) (by decide +kernel)
theorem iw_28 : (Cond.selects RX3 yX3_askQueued yX3_askQueued) ∈ tb := tb_in 28 (by decide +kernel) (by decide +kernel)
theorem iw_29 : (Cond.selects RX3 yX3_letDrainedGo yX3_letDrainedGo) ∈ tb := tb_in 29 (by decide +kernel) (by decide +kernel)
theorem iw_30 : (Cond.selects RX3 yX3_askingsSoFar yX3_askingsSoFar) ∈ tb := tb_in 30 (by decide +kernel) (by decide +kernel)
theorem iw_31 : (Cond.selects RX3 yX3_callsThatAre yX3_callsThatAre) ∈ tb := tb_in 31 (by decide +kernel) (by decide +kernel)
theorem iw_32 : (Cond.selects RX3 yX3_openAskings yX3_openAskings) ∈ tb := tb_in 32 (by decide +kernel) (by decide +kernel)
theorem iw_33 : (Cond.selects RX4 yX4_refuse yX4_refuse) ∈ tb := tb_in 33 (by decide +kernel) (by decide +kernel)
theorem iw_34 : (Cond.selects RX4 yX4_isServer yX4_isServer) ∈ tb := tb_in 34 (by decide +kernel) (by decide +kernel)
theorem iw_35 : (Cond.selects RX4 yX4_asksFor yX4_asksFor) ∈ tb := tb_in 35 (by decide +kernel) (by decide +kernel)
theorem iw_36 : (Cond.selects RX4 yX4_mays yX4_mays) ∈ tb := tb_in 36 (by decide +kernel) (by decide +kernel)
theorem iw_37 : (Cond.selects RX4 yX4_picked yX4_picked) ∈ tb := tb_in 37 (by decide +kernel) (by decide +kernel)
theorem iw_38 : (Cond.selects RX4 yX4_byTurns yX4_byTurns) ∈ tb := tb_in 38 (by decide +kernel) (by decide +kernel)
theorem iw_39 : (Cond.selects RX4 yX4_fewest yX4_fewest) ∈ tb := tb_in 39 (by decide +kernel) (by decide +kernel)
theorem iw_40 : (Cond.selects RX4 yX4_onRing yX4_onRing) ∈ tb := tb_in 40 (by decide +kernel) (by decide +kernel)
theorem iw_41 : (Cond.selects RX4 yX4_near yX4_near) ∈ tb := tb_in 41 (by decide +kernel) (by decide +kernel)
theorem iw_42 : (Cond.selects RX4 yX4_ask yX4_ask) ∈ tb := tb_in 42 (by decide +kernel) (by decide +kernel)
theorem iw_43 : (Cond.selects RX4 yX4_isCall yX4_isCall) ∈ tb := tb_in 43 (by decide +kernel) (by decide +kernel)
theorem iw_44 : (Cond.selects RX4 yX4_ends yX4_ends) ∈ tb := tb_in 44 (by decide +kernel) (by decide +kernel)
theorem iw_45 : (Cond.selects RX4 yX4_takes yX4_takes) ∈ tb := tb_in 45 (by decide +kernel) (by decide +kernel)
theorem iw_46 : (Cond.selects RX4 yX4_goesOn yX4_goesOn) ∈ tb := tb_in 46 (by decide +kernel) (by decide +kernel)
theorem iw_47 : (Cond.selects RX4 yX4_comesBack yX4_comesBack) ∈ tb := tb_in 47 (by decide +kernel) (by decide +kernel)
theorem iw_48 : (Cond.selects RX4 yX4_answer yX4_answer) ∈ tb := tb_in 48 (by decide +kernel) (by decide +kernel)
theorem iw_49 : (Cond.selects RX4 yX4_failure yX4_failure) ∈ tb := tb_in 49 (by decide +kernel) (by decide +kernel)
theorem iw_50 : (Cond.selects RX4 yX4_outsNow yX4_outsNow) ∈ tb := tb_in 50 (by decide +kernel) (by decide +kernel)
theorem iw_51 : (Cond.selects RX4 yX4_isDue yX4_isDue) ∈ tb := tb_in 51 (by decide +kernel) (by decide +kernel)
theorem iw_52 : (Cond.selects RX4 yX4_hedges yX4_hedges) ∈ tb := tb_in 52 (by decide +kernel) (by decide +kernel)
theorem iw_53 : (Cond.selects RX4 yX4_line yX4_line) ∈ tb := tb_in 53 (by decide +kernel) (by decide +kernel)
theorem iw_54 : (Cond.selects RX4 yX4_isAhead yX4_isAhead) ∈ tb := tb_in 54 (by decide +kernel) (by decide +kernel)
theorem iw_55 : (Cond.selects RX4 yX4_inState yX4_inState) ∈ tb := tb_in 55 (by decide +kernel) (by decide +kernel)
theorem iw_57 : (Cond.initialized RX3) ∈ tb := tb_in 57 (by decide +kernel) (by decide +kernel)
theorem iw_58 : (Cond.initialized RJxa1e45) ∈ tb := tb_in 58 (by decide +kernel) (by decide +kernel)
theorem iw_59 : (Cond.initialized RJxc12de) ∈ tb := tb_in 59 (by decide +kernel) (by decide +kernel)
theorem iw_60 : (Cond.initialized RJx4a65c) ∈ tb := tb_in 60 (by decide +kernel) (by decide +kernel)
theorem iw_61 : (Cond.initialized RX4) ∈ tb := tb_in 61 (by decide +kernel) (by decide +kernel)
theorem iw_62 : (Cond.initialized RX2) ∈ tb := tb_in 62 (by decide +kernel) (by decide +kernel)
theorem iw_63 : (Cond.initialized RJ8) ∈ tb := tb_in 63 (by decide +kernel) (by decide +kernel)
theorem iw_64 : (Cond.initialized "java/lang/Math") ∈ tb := tb_in 64 (by decide +kernel) (by decide +kernel)
theorem iw_65 : (Cond.initialized RJ7) ∈ tb := tb_in 65 (by decide +kernel) (by decide +kernel)
theorem iw_66 : (Cond.initialized "java/lang/System") ∈ tb := tb_in 66 (by decide +kernel) (by decide +kernel)
theorem iw_67 : (Cond.initialized RJ15) ∈ tb := tb_in 67 (by decide +kernel) (by decide +kernel)
theorem iw_68 : (Cond.initialized RJ3) ∈ tb := tb_in 68 (by decide +kernel) (by decide +kernel)
theorem iw_69 : (Cond.initialized RX1) ∈ tb := tb_in 69 (by decide +kernel) (by decide +kernel)
theorem iw_70 : (Cond.initialized RX0) ∈ tb := tb_in 70 (by decide +kernel) (by decide +kernel)
theorem iw_71 : (Cond.classLink RL 7 RX3) ∈ tb := tb_in 71 (by decide +kernel) (by decide +kernel)
theorem iw_72 : (Cond.instantiable RX3 13) ∈ tb := tb_in 72 (by decide +kernel) (by decide +kernel)
theorem iw_73 : (Cond.methodLink RL 9 yX3_init) ∈ tb := tb_in 73 (by decide +kernel) (by decide +kernel)
theorem iw_74 : (Cond.instanceMethod yX3_init) ∈ tb := tb_in 74 (by decide +kernel) (by decide +kernel)
theorem iw_75 : (Cond.code yX3_init cX3_init 1 none) ∈ tb := tb_in 75 (by decide +kernel) (by decide +kernel)
theorem iw_76 : (Cond.methodLink RX3 1 objectInit) ∈ tb := tb_in 76 (by decide +kernel) (by decide +kernel)
theorem iw_77 : (Cond.instanceMethod objectInit) ∈ tb := tb_in 77 (by decide +kernel) (by decide +kernel)
theorem iw_78 : (Cond.code objectInit ⟨#[0xb1]⟩ 1 none) ∈ tb := tb_in 78 (by decide +kernel) (by decide +kernel)
theorem iw_79 : (Cond.classLink RX3 7 RJx4a65c) ∈ tb := tb_in 79 (by decide +kernel) (by decide +kernel)
theorem iw_80 : (Cond.instantiable RJx4a65c 3) ∈ tb := tb_in 80 (by decide +kernel) (by decide +kernel)
theorem iw_81 : (Cond.methodLink RX3 9 yJx4a65c_init_da8c8) ∈ tb := tb_in 81 (by decide +kernel) (by decide +kernel)
theorem iw_82 : (Cond.instanceMethod yJx4a65c_init_da8c8) ∈ tb := tb_in 82 (by decide +kernel) (by decide +kernel)
theorem iw_83 : (Cond.code yJx4a65c_init_da8c8 cJx4a65c_init_da8c8 1 none) ∈ tb := tb_in 83 (by decide +kernel) (by decide +kernel)
theorem iw_84 : (Cond.methodLink RJx4a65c 1 yJxc12de_init_da8c8) ∈ tb := tb_in 84 (by decide +kernel) (by decide +kernel)
theorem iw_85 : (Cond.instanceMethod yJxc12de_init_da8c8) ∈ tb := tb_in 85 (by decide +kernel) (by decide +kernel)
theorem iw_86 : (Cond.code yJxc12de_init_da8c8 cJxc12de_init_da8c8 1 none) ∈ tb := tb_in 86 (by decide +kernel) (by decide +kernel)
theorem iw_87 : (Cond.methodLink RJxc12de 1 yJxa1e45_init_da8c8) ∈ tb := tb_in 87 (by decide +kernel) (by decide +kernel)
theorem iw_88 : (Cond.instanceMethod yJxa1e45_init_da8c8) ∈ tb := tb_in 88 (by decide +kernel) (by decide +kernel)
theorem iw_89 : (Cond.code yJxa1e45_init_da8c8 cJxa1e45_init_da8c8 1 none) ∈ tb := tb_in 89 (by decide +kernel) (by decide +kernel)
theorem iw_90 : (Cond.methodLink RJxa1e45 1 objectInit) ∈ tb := tb_in 90 (by decide +kernel) (by decide +kernel)
theorem iw_91 : (Cond.fieldLink RJx4a65c 39 "java/util/ArrayList" "DEFAULTCAPACITY_EMPTY_ELEMENTDATA" "[Ljava/lang/Object;") ∈ tb := tb_in 91 (by decide +kernel) (by decide +kernel)
theorem iw_93 : (Cond.fieldLink RJx4a65c 9 "java/util/ArrayList" "elementData" "[Ljava/lang/Object;") ∈ tb := tb_in 93 (by decide +kernel) (by decide +kernel)
theorem iw_94 : (Cond.fieldLink RJx4a65c 48 "java/util/ArrayList" "size" "I") ∈ tb := tb_in 94 (by decide +kernel) (by decide +kernel)
theorem iw_95 : (Cond.fieldLink RJxc12de 7 "java/util/AbstractList" "modCount" "I") ∈ tb := tb_in 95 (by decide +kernel) (by decide +kernel)
theorem iw_96 : (Cond.fieldLink RJx4a65c 63 "java/util/ArrayList" "modCount" "I") ∈ tb := tb_in 96 (by decide +kernel) (by decide +kernel)
theorem iw_97 : (Cond.sameField "java/util/ArrayList" "java/util/AbstractList" "modCount" "I") ∈ tb := tb_in 97 (by decide +kernel) (by decide +kernel)
theorem iw_105 : (Cond.fieldLink RX3 10 "FrontDoor" "servers" "Ljava/util/ArrayList;") ∈ tb := tb_in 105 (by decide +kernel) (by decide +kernel)
theorem iw_106 : (Cond.fieldLink RX3 16 "FrontDoor" "calls" "Ljava/util/ArrayList;") ∈ tb := tb_in 106 (by decide +kernel) (by decide +kernel)
theorem iw_107 : (Cond.fieldLink RX3 19 "FrontDoor" "live" "Ljava/util/ArrayList;") ∈ tb := tb_in 107 (by decide +kernel) (by decide +kernel)
theorem iw_108 : (Cond.fieldLink RX3 22 "FrontDoor" "line" "Ljava/util/ArrayList;") ∈ tb := tb_in 108 (by decide +kernel) (by decide +kernel)
theorem iw_109 : (Cond.fieldLink RX3 25 "FrontDoor" "refusals" "[I") ∈ tb := tb_in 109 (by decide +kernel) (by decide +kernel)
theorem iw_110 : (Cond.fieldLink RX3 95 "FrontDoor" "tick" "I") ∈ tb := tb_in 110 (by decide +kernel) (by decide +kernel)
theorem iw_111 : (Cond.fieldLink RX3 29 "FrontDoor" "ruleNow" "I") ∈ tb := tb_in 111 (by decide +kernel) (by decide +kernel)
theorem iw_112 : (Cond.fieldLink RX3 33 "FrontDoor" "limitNow" "I") ∈ tb := tb_in 112 (by decide +kernel) (by decide +kernel)
theorem iw_113 : (Cond.fieldLink RX3 36 "FrontDoor" "budgetNow" "I") ∈ tb := tb_in 113 (by decide +kernel) (by decide +kernel)
theorem iw_114 : (Cond.fieldLink RX3 89 "FrontDoor" "hedgeNow" "I") ∈ tb := tb_in 114 (by decide +kernel) (by decide +kernel)
theorem iw_115 : (Cond.fieldLink RX3 164 "FrontDoor" "agains" "I") ∈ tb := tb_in 115 (by decide +kernel) (by decide +kernel)
theorem iw_116 : (Cond.fieldLink RX3 167 "FrontDoor" "seconds" "I") ∈ tb := tb_in 116 (by decide +kernel) (by decide +kernel)
theorem iw_117 : (Cond.fieldLink RX3 134 "FrontDoor" "endedSoFar" "I") ∈ tb := tb_in 117 (by decide +kernel) (by decide +kernel)
theorem iw_145 : (Cond.arrayClass .int) ∈ tb := tb_in 145 (by decide +kernel) (by decide +kernel)
theorem iw_146 : (Cond.methodLink RL 13 yX3_server) ∈ tb := tb_in 146 (by decide +kernel) (by decide +kernel)
theorem iw_147 : (Cond.instanceMethod yX3_server) ∈ tb := tb_in 147 (by decide +kernel) (by decide +kernel)
theorem iw_148 : (Cond.selects RX3 yX3_server yX3_server) ∈ tb := tb_in 148 (by decide +kernel) (by decide +kernel)
theorem iw_149 : (Cond.code yX3_server cX3_server 7 (some .int)) ∈ tb := tb_in 149 (by decide +kernel) (by decide +kernel)
theorem iw_150 : (Cond.methodLink RX3 39 yX3_refuse) ∈ tb := tb_in 150 (by decide +kernel) (by decide +kernel)
theorem iw_152 : (Cond.instanceMethod yX3_refuse) ∈ tb := tb_in 152 (by decide +kernel) (by decide +kernel)
theorem iw_153 : (Cond.code yX3_refuse cX3_refuse 3 (some .int)) ∈ tb := tb_in 153 (by decide +kernel) (by decide +kernel)
theorem iw_154 : (Cond.methodLink RX3 43 yJx4a65c_size_8abf5) ∈ tb := tb_in 154 (by decide +kernel) (by decide +kernel)
theorem iw_155 : (Cond.instanceMethod yJx4a65c_size_8abf5) ∈ tb := tb_in 155 (by decide +kernel) (by decide +kernel)
theorem iw_156 : (Cond.selects RJx4a65c yJx4a65c_size_8abf5 yJx4a65c_size_8abf5) ∈ tb := tb_in 156 (by decide +kernel) (by decide +kernel)
theorem iw_157 : (Cond.code yJx4a65c_size_8abf5 cJx4a65c_size_8abf5 1 (some .int)) ∈ tb := tb_in 157 (by decide +kernel) (by decide +kernel)
theorem iw_158 : (Cond.classLink RX3 47 RX2) ∈ tb := tb_in 158 (by decide +kernel) (by decide +kernel)
theorem iw_159 : (Cond.instantiable RX2 17) ∈ tb := tb_in 159 (by decide +kernel) (by decide +kernel)
theorem iw_160 : (Cond.methodLink RX3 49 yX2_init) ∈ tb := tb_in 160 (by decide +kernel) (by decide +kernel)
theorem iw_161 : (Cond.instanceMethod yX2_init) ∈ tb := tb_in 161 (by decide +kernel) (by decide +kernel)
theorem iw_162 : (Cond.code yX2_init cX2_init 7 none) ∈ tb := tb_in 162 (by decide +kernel) (by decide +kernel)
theorem iw_163 : (Cond.methodLink RX2 3 objectInit) ∈ tb := tb_in 163 (by decide +kernel) (by decide +kernel)
theorem iw_164 : (Cond.fieldLink RX2 9 "FrontDoor$Server" "number" "I") ∈ tb := tb_in 164 (by decide +kernel) (by decide +kernel)
theorem iw_165 : (Cond.fieldLink RX3 56 "FrontDoor$Server" "number" "I") ∈ tb := tb_in 165 (by decide +kernel) (by decide +kernel)
theorem iw_166 : (Cond.fieldLink RX1 56 "FrontDoor$Server" "number" "I") ∈ tb := tb_in 166 (by decide +kernel) (by decide +kernel)
theorem iw_167 : (Cond.fieldLink RX2 18 "FrontDoor$Server" "zone" "I") ∈ tb := tb_in 167 (by decide +kernel) (by decide +kernel)
theorem iw_168 : (Cond.fieldLink RX3 192 "FrontDoor$Server" "zone" "I") ∈ tb := tb_in 168 (by decide +kernel) (by decide +kernel)
theorem iw_169 : (Cond.fieldLink RX2 15 "FrontDoor$Server" "weight" "I") ∈ tb := tb_in 169 (by decide +kernel) (by decide +kernel)
theorem iw_170 : (Cond.fieldLink RX3 189 "FrontDoor$Server" "weight" "I") ∈ tb := tb_in 170 (by decide +kernel) (by decide +kernel)
theorem iw_171 : (Cond.fieldLink RX2 21 "FrontDoor$Server" "room" "I") ∈ tb := tb_in 171 (by decide +kernel) (by decide +kernel)
theorem iw_172 : (Cond.fieldLink RX2 24 "FrontDoor$Server" "pace" "I") ∈ tb := tb_in 172 (by decide +kernel) (by decide +kernel)
theorem iw_173 : (Cond.fieldLink RX2 27 "FrontDoor$Server" "breaks" "I") ∈ tb := tb_in 173 (by decide +kernel) (by decide +kernel)
theorem iw_174 : (Cond.fieldLink RX2 54 "FrontDoor$Server" "mute" "I") ∈ tb := tb_in 174 (by decide +kernel) (by decide +kernel)
theorem iw_175 : (Cond.fieldLink RX2 30 "FrontDoor$Server" "health" "I") ∈ tb := tb_in 175 (by decide +kernel) (by decide +kernel)
theorem iw_176 : (Cond.fieldLink RX3 63 "FrontDoor$Server" "health" "I") ∈ tb := tb_in 176 (by decide +kernel) (by decide +kernel)
theorem iw_177 : (Cond.fieldLink RX2 36 "FrontDoor$Server" "open" "I") ∈ tb := tb_in 177 (by decide +kernel) (by decide +kernel)
theorem iw_178 : (Cond.fieldLink RX3 80 "FrontDoor$Server" "open" "I") ∈ tb := tb_in 178 (by decide +kernel) (by decide +kernel)
theorem iw_179 : (Cond.fieldLink RX1 59 "FrontDoor$Server" "open" "I") ∈ tb := tb_in 179 (by decide +kernel) (by decide +kernel)
theorem iw_180 : (Cond.fieldLink RX2 51 "FrontDoor$Server" "asked" "I") ∈ tb := tb_in 180 (by decide +kernel) (by decide +kernel)
theorem iw_181 : (Cond.fieldLink RX3 158 "FrontDoor$Server" "asked" "I") ∈ tb := tb_in 181 (by decide +kernel) (by decide +kernel)
theorem iw_182 : (Cond.fieldLink RX2 62 "FrontDoor$Server" "answers" "I") ∈ tb := tb_in 182 (by decide +kernel) (by decide +kernel)
theorem iw_183 : (Cond.fieldLink RX2 77 "FrontDoor$Server" "failures" "I") ∈ tb := tb_in 183 (by decide +kernel) (by decide +kernel)
theorem iw_184 : (Cond.fieldLink RX3 293 "FrontDoor$Server" "failures" "I") ∈ tb := tb_in 184 (by decide +kernel) (by decide +kernel)
theorem iw_185 : (Cond.fieldLink RX3 83 "FrontDoor$Server" "row" "I") ∈ tb := tb_in 185 (by decide +kernel) (by decide +kernel)
theorem iw_186 : (Cond.fieldLink RX2 65 "FrontDoor$Server" "row" "I") ∈ tb := tb_in 186 (by decide +kernel) (by decide +kernel)
theorem iw_187 : (Cond.fieldLink RX2 68 "FrontDoor$Server" "until" "I") ∈ tb := tb_in 187 (by decide +kernel) (by decide +kernel)
theorem iw_188 : (Cond.fieldLink RX3 306 "FrontDoor$Server" "until" "I") ∈ tb := tb_in 188 (by decide +kernel) (by decide +kernel)
theorem iw_189 : (Cond.fieldLink RX2 33 "FrontDoor$Server" "penalty" "I") ∈ tb := tb_in 189 (by decide +kernel) (by decide +kernel)
theorem iw_190 : (Cond.fieldLink RX3 86 "FrontDoor$Server" "penalty" "I") ∈ tb := tb_in 190 (by decide +kernel) (by decide +kernel)
theorem iw_191 : (Cond.fieldLink RX2 71 "FrontDoor$Server" "outs" "I") ∈ tb := tb_in 191 (by decide +kernel) (by decide +kernel)
theorem iw_192 : (Cond.fieldLink RX2 80 "FrontDoor$Server" "credit" "I") ∈ tb := tb_in 192 (by decide +kernel) (by decide +kernel)
theorem iw_193 : (Cond.fieldLink RX3 186 "FrontDoor$Server" "credit" "I") ∈ tb := tb_in 193 (by decide +kernel) (by decide +kernel)
theorem iw_229 : (Cond.methodLink RX3 52 yJx4a65c_add_9ea2d) ∈ tb := tb_in 229 (by decide +kernel) (by decide +kernel)
theorem iw_230 : (Cond.instanceMethod yJx4a65c_add_9ea2d) ∈ tb := tb_in 230 (by decide +kernel) (by decide +kernel)
theorem iw_231 : (Cond.selects RJx4a65c yJx4a65c_add_9ea2d yJx4a65c_add_9ea2d) ∈ tb := tb_in 231 (by decide +kernel) (by decide +kernel)
theorem iw_232 : (Cond.code yJx4a65c_add_9ea2d cJx4a65c_add_9ea2d 2 (some .boolean)) ∈ tb := tb_in 232 (by decide +kernel) (by decide +kernel)
theorem iw_233 : (Cond.methodLink RJx4a65c 131 yJx4a65c_add_72be8) ∈ tb := tb_in 233 (by decide +kernel) (by decide +kernel)
theorem iw_235 : (Cond.instanceMethod yJx4a65c_add_72be8) ∈ tb := tb_in 235 (by decide +kernel) (by decide +kernel)
theorem iw_236 : (Cond.code yJx4a65c_add_72be8 cJx4a65c_add_72be8 4 none) ∈ tb := tb_in 236 (by decide +kernel) (by decide +kernel)
theorem iw_237 : (Cond.methodLink RJx4a65c 129 yJx4a65c_grow_d5877) ∈ tb := tb_in 237 (by decide +kernel) (by decide +kernel)
theorem iw_239 : (Cond.instanceMethod yJx4a65c_grow_d5877) ∈ tb := tb_in 239 (by decide +kernel) (by decide +kernel)
theorem iw_240 : (Cond.code yJx4a65c_grow_d5877 cJx4a65c_grow_d5877 1 (some (.array (.object "java/lang/Object")))) ∈ tb := tb_in 240 (by decide +kernel) (by decide +kernel)
theorem iw_241 : (Cond.methodLink RJx4a65c 69 yJx4a65c_grow_92f84) ∈ tb := tb_in 241 (by decide +kernel) (by decide +kernel)
theorem iw_243 : (Cond.instanceMethod yJx4a65c_grow_92f84) ∈ tb := tb_in 243 (by decide +kernel) (by decide +kernel)
theorem iw_244 : (Cond.code yJx4a65c_grow_92f84 cJx4a65c_grow_92f84 4 (some (.array (.object "java/lang/Object")))) ∈ tb := tb_in 244 (by decide +kernel) (by decide +kernel)
theorem iw_245 : (Cond.methodLink RJx4a65c 73 yJ8_newLength_cabcc) ∈ tb := tb_in 245 (by decide +kernel) (by decide +kernel)
theorem iw_246 : (Cond.static yJ8_newLength_cabcc) ∈ tb := tb_in 246 (by decide +kernel) (by decide +kernel)
theorem iw_247 : (Cond.code yJ8_newLength_cabcc cJ8_newLength_cabcc 4 (some .int)) ∈ tb := tb_in 247 (by decide +kernel) (by decide +kernel)
theorem iw_248 : (Cond.methodLink RJ8 194 Lib.Math.max.name) ∈ tb := tb_in 248 (by decide +kernel) (by decide +kernel)
theorem iw_249 : (Cond.static Lib.Math.max.name) ∈ tb := tb_in 249 (by decide +kernel) (by decide +kernel)
theorem iw_250 : (Cond.code Lib.Math.max.name Lib.Math.max.code 2 (some .int)) ∈ tb := tb_in 250 (by decide +kernel) (by decide +kernel)
theorem iw_251 : (Cond.constant RJ8 200 (2147483639)) ∈ tb := tb_in 251 (by decide +kernel) (by decide +kernel)
theorem iw_252 : (Cond.methodLink RJ8 201 yJ8_hugeLength_7cf53) ∈ tb := tb_in 252 (by decide +kernel) (by decide +kernel)
theorem iw_253 : (Cond.static yJ8_hugeLength_7cf53) ∈ tb := tb_in 253 (by decide +kernel) (by decide +kernel)
theorem iw_254 : (Cond.code yJ8_hugeLength_7cf53 cJ8_hugeLength_7cf53 3 (some .int)) ∈ tb := tb_in 254 (by decide +kernel) (by decide +kernel)
theorem iw_255 : (Cond.methodLink RJx4a65c 66 yJ7_copyOf_1904c) ∈ tb := tb_in 255 (by decide +kernel) (by decide +kernel)
theorem iw_256 : (Cond.static yJ7_copyOf_1904c) ∈ tb := tb_in 256 (by decide +kernel) (by decide +kernel)
theorem iw_257 : (Cond.code yJ7_copyOf_1904c cJ7_copyOf_1904c 2 (some (.array (.object "java/lang/Object")))) ∈ tb := tb_in 257 (by decide +kernel) (by decide +kernel)
theorem iw_258 : (Cond.methodLink RJ7 86 ⟨"java/lang/Object", "getClass", "()Ljava/lang/Class;"⟩) ∈ tb := tb_in 258 (by decide +kernel) (by decide +kernel)
theorem iw_259 : (Cond.instanceMethod ⟨"java/lang/Object", "getClass", "()Ljava/lang/Class;"⟩) ∈ tb := tb_in 259 (by decide +kernel) (by decide +kernel)
theorem iw_267 : (Cond.native ⟨"java/lang/Object", "getClass", "()Ljava/lang/Class;"⟩) ∈ tb := tb_in 267 (by decide +kernel) (by decide +kernel)
theorem iw_268 : (Cond.methodLink RJ7 300 yJ7_copyOf_6403c) ∈ tb := tb_in 268 (by decide +kernel) (by decide +kernel)
theorem iw_269 : (Cond.static yJ7_copyOf_6403c) ∈ tb := tb_in 269 (by decide +kernel) (by decide +kernel)
theorem iw_270 : (Cond.code yJ7_copyOf_6403c cJ7_copyOf_6403c 4 (some (.array (.object "java/lang/Object")))) ∈ tb := tb_in 270 (by decide +kernel) (by decide +kernel)
theorem iw_271 : (Cond.classLink RJ7 110 "[Ljava/lang/Object;") ∈ tb := tb_in 271 (by decide +kernel) (by decide +kernel)
theorem iw_273 : (Cond.classLink RJ7 2 "java/lang/Object") ∈ tb := tb_in 273 (by decide +kernel) (by decide +kernel)
theorem iw_274 : (Cond.methodLink RJ7 304 Lib.Math.min.name) ∈ tb := tb_in 274 (by decide +kernel) (by decide +kernel)
theorem iw_275 : (Cond.static Lib.Math.min.name) ∈ tb := tb_in 275 (by decide +kernel) (by decide +kernel)
theorem iw_276 : (Cond.code Lib.Math.min.name Lib.Math.min.code 2 (some .int)) ∈ tb := tb_in 276 (by decide +kernel) (by decide +kernel)
theorem iw_277 : (Cond.methodLink RJ7 150 arraycopyName) ∈ tb := tb_in 277 (by decide +kernel) (by decide +kernel)
theorem iw_278 : (Cond.static arraycopyName) ∈ tb := tb_in 278 (by decide +kernel) (by decide +kernel)
theorem iw_279 : (Cond.native arraycopyName) ∈ tb := tb_in 279 (by decide +kernel) (by decide +kernel)
theorem iw_280 : (Cond.methodLink RJx4a65c 79 Lib.Math.max.name) ∈ tb := tb_in 280 (by decide +kernel) (by decide +kernel)
theorem iw_281 : (Cond.classLink RJx4a65c 7 "java/lang/Object") ∈ tb := tb_in 281 (by decide +kernel) (by decide +kernel)
theorem iw_282 : (Cond.methodLink RL 18 yX3_set) ∈ tb := tb_in 282 (by decide +kernel) (by decide +kernel)
theorem iw_283 : (Cond.instanceMethod yX3_set) ∈ tb := tb_in 283 (by decide +kernel) (by decide +kernel)
theorem iw_284 : (Cond.selects RX3 yX3_set yX3_set) ∈ tb := tb_in 284 (by decide +kernel) (by decide +kernel)
theorem iw_285 : (Cond.code yX3_set cX3_set 6 (some .int)) ∈ tb := tb_in 285 (by decide +kernel) (by decide +kernel)
theorem iw_286 : (Cond.methodLink RX3 59 yX3_serverAt) ∈ tb := tb_in 286 (by decide +kernel) (by decide +kernel)
theorem iw_288 : (Cond.instanceMethod yX3_serverAt) ∈ tb := tb_in 288 (by decide +kernel) (by decide +kernel)
theorem iw_289 : (Cond.code yX3_serverAt cX3_serverAt 2 (some (.object "FrontDoor$Server"))) ∈ tb := tb_in 289 (by decide +kernel) (by decide +kernel)
theorem iw_290 : (Cond.methodLink RX3 151 yJx4a65c_get_915e3) ∈ tb := tb_in 290 (by decide +kernel) (by decide +kernel)
theorem iw_291 : (Cond.instanceMethod yJx4a65c_get_915e3) ∈ tb := tb_in 291 (by decide +kernel) (by decide +kernel)
theorem iw_292 : (Cond.selects RJx4a65c yJx4a65c_get_915e3 yJx4a65c_get_915e3) ∈ tb := tb_in 292 (by decide +kernel) (by decide +kernel)
theorem iw_293 : (Cond.code yJx4a65c_get_915e3 cJx4a65c_get_915e3 2 (some (.object "java/lang/Object"))) ∈ tb := tb_in 293 (by decide +kernel) (by decide +kernel)
theorem iw_294 : (Cond.methodLink RJx4a65c 118 yJ15_checkIndex_7cf53) ∈ tb := tb_in 294 (by decide +kernel) (by decide +kernel)
theorem iw_295 : (Cond.static yJ15_checkIndex_7cf53) ∈ tb := tb_in 295 (by decide +kernel) (by decide +kernel)
theorem iw_296 : (Cond.code yJ15_checkIndex_7cf53 cJ15_checkIndex_7cf53 2 (some .int)) ∈ tb := tb_in 296 (by decide +kernel) (by decide +kernel)
theorem iw_297 : (Cond.methodLink RJ15 105 yJ3_checkIndex_8e157) ∈ tb := tb_in 297 (by decide +kernel) (by decide +kernel)
theorem iw_298 : (Cond.static yJ3_checkIndex_8e157) ∈ tb := tb_in 298 (by decide +kernel) (by decide +kernel)
theorem iw_299 : (Cond.code yJ3_checkIndex_8e157 cJ3_checkIndex_8e157 3 (some .int)) ∈ tb := tb_in 299 (by decide +kernel) (by decide +kernel)
theorem iw_300 : (Cond.methodLink RJx4a65c 123 yJx4a65c_elementData_915e3) ∈ tb := tb_in 300 (by decide +kernel) (by decide +kernel)
theorem iw_301 : (Cond.instanceMethod yJx4a65c_elementData_915e3) ∈ tb := tb_in 301 (by decide +kernel) (by decide +kernel)
theorem iw_302 : (Cond.selects RJx4a65c yJx4a65c_elementData_915e3 yJx4a65c_elementData_915e3) ∈ tb := tb_in 302 (by decide +kernel) (by decide +kernel)
theorem iw_303 : (Cond.code yJx4a65c_elementData_915e3 cJx4a65c_elementData_915e3 2 (some (.object "java/lang/Object"))) ∈ tb := tb_in 303 (by decide +kernel) (by decide +kernel)
theorem iw_304 : (Cond.methodLink RX3 66 yX3_leastOf) ∈ tb := tb_in 304 (by decide +kernel) (by decide +kernel)
theorem iw_305 : (Cond.static yX3_leastOf) ∈ tb := tb_in 305 (by decide +kernel) (by decide +kernel)
theorem iw_306 : (Cond.code yX3_leastOf cX3_leastOf 1 (some .int)) ∈ tb := tb_in 306 (by decide +kernel) (by decide +kernel)
theorem iw_307 : (Cond.methodLink RX3 69 yX3_greatestOf) ∈ tb := tb_in 307 (by decide +kernel) (by decide +kernel)
theorem iw_308 : (Cond.static yX3_greatestOf) ∈ tb := tb_in 308 (by decide +kernel) (by decide +kernel)
theorem iw_309 : (Cond.code yX3_greatestOf cX3_greatestOf 1 (some .int)) ∈ tb := tb_in 309 (by decide +kernel) (by decide +kernel)
theorem iw_310 : (Cond.methodLink RX3 72 yX3_faultOf) ∈ tb := tb_in 310 (by decide +kernel) (by decide +kernel)
theorem iw_311 : (Cond.static yX3_faultOf) ∈ tb := tb_in 311 (by decide +kernel) (by decide +kernel)
theorem iw_312 : (Cond.code yX3_faultOf cX3_faultOf 3 (some .int)) ∈ tb := tb_in 312 (by decide +kernel) (by decide +kernel)
theorem iw_313 : (Cond.methodLink RX3 76 yX2_change) ∈ tb := tb_in 313 (by decide +kernel) (by decide +kernel)
theorem iw_314 : (Cond.instanceMethod yX2_change) ∈ tb := tb_in 314 (by decide +kernel) (by decide +kernel)
theorem iw_315 : (Cond.selects RX2 yX2_change yX2_change) ∈ tb := tb_in 315 (by decide +kernel) (by decide +kernel)
theorem iw_316 : (Cond.code yX2_change cX2_change 4 (some .int)) ∈ tb := tb_in 316 (by decide +kernel) (by decide +kernel)
theorem iw_317 : (Cond.methodLink RX2 74 yX2_tell) ∈ tb := tb_in 317 (by decide +kernel) (by decide +kernel)
theorem iw_318 : (Cond.instanceMethod yX2_tell) ∈ tb := tb_in 318 (by decide +kernel) (by decide +kernel)
theorem iw_319 : (Cond.selects RX2 yX2_tell yX2_tell) ∈ tb := tb_in 319 (by decide +kernel) (by decide +kernel)
theorem iw_320 : (Cond.code yX2_tell cX2_tell 2 (some .int)) ∈ tb := tb_in 320 (by decide +kernel) (by decide +kernel)
theorem iw_321 : (Cond.constant RX2 83 (1000000000)) ∈ tb := tb_in 321 (by decide +kernel) (by decide +kernel)
theorem iw_322 : (Cond.methodLink RL 23 yX3_drain) ∈ tb := tb_in 322 (by decide +kernel) (by decide +kernel)
theorem iw_323 : (Cond.instanceMethod yX3_drain) ∈ tb := tb_in 323 (by decide +kernel) (by decide +kernel)
theorem iw_324 : (Cond.selects RX3 yX3_drain yX3_drain) ∈ tb := tb_in 324 (by decide +kernel) (by decide +kernel)
theorem iw_325 : (Cond.code yX3_drain cX3_drain 3 (some .int)) ∈ tb := tb_in 325 (by decide +kernel) (by decide +kernel)
theorem iw_326 : (Cond.methodLink RL 28 yX3_back) ∈ tb := tb_in 326 (by decide +kernel) (by decide +kernel)
theorem iw_327 : (Cond.instanceMethod yX3_back) ∈ tb := tb_in 327 (by decide +kernel) (by decide +kernel)
theorem iw_328 : (Cond.selects RX3 yX3_back yX3_back) ∈ tb := tb_in 328 (by decide +kernel) (by decide +kernel)
theorem iw_329 : (Cond.code yX3_back cX3_back 3 (some .int)) ∈ tb := tb_in 329 (by decide +kernel) (by decide +kernel)
theorem iw_330 : (Cond.methodLink RL 32 yX3_rule) ∈ tb := tb_in 330 (by decide +kernel) (by decide +kernel)
theorem iw_331 : (Cond.instanceMethod yX3_rule) ∈ tb := tb_in 331 (by decide +kernel) (by decide +kernel)
theorem iw_332 : (Cond.selects RX3 yX3_rule yX3_rule) ∈ tb := tb_in 332 (by decide +kernel) (by decide +kernel)
theorem iw_333 : (Cond.code yX3_rule cX3_rule 3 (some .int)) ∈ tb := tb_in 333 (by decide +kernel) (by decide +kernel)
theorem iw_334 : (Cond.methodLink RL 36 yX3_limit) ∈ tb := tb_in 334 (by decide +kernel) (by decide +kernel)
theorem iw_335 : (Cond.instanceMethod yX3_limit) ∈ tb := tb_in 335 (by decide +kernel) (by decide +kernel)
theorem iw_336 : (Cond.selects RX3 yX3_limit yX3_limit) ∈ tb := tb_in 336 (by decide +kernel) (by decide +kernel)
theorem iw_337 : (Cond.code yX3_limit cX3_limit 4 (some .int)) ∈ tb := tb_in 337 (by decide +kernel) (by decide +kernel)
theorem iw_338 : (Cond.methodLink RL 40 yX3_budget) ∈ tb := tb_in 338 (by decide +kernel) (by decide +kernel)
theorem iw_339 : (Cond.instanceMethod yX3_budget) ∈ tb := tb_in 339 (by decide +kernel) (by decide +kernel)
theorem iw_340 : (Cond.selects RX3 yX3_budget yX3_budget) ∈ tb := tb_in 340 (by decide +kernel) (by decide +kernel)
theorem iw_341 : (Cond.code yX3_budget cX3_budget 4 (some .int)) ∈ tb := tb_in 341 (by decide +kernel) (by decide +kernel)
theorem iw_342 : (Cond.methodLink RL 44 yX3_hedge) ∈ tb := tb_in 342 (by decide +kernel) (by decide +kernel)
theorem iw_343 : (Cond.instanceMethod yX3_hedge) ∈ tb := tb_in 343 (by decide +kernel) (by decide +kernel)
theorem iw_344 : (Cond.selects RX3 yX3_hedge yX3_hedge) ∈ tb := tb_in 344 (by decide +kernel) (by decide +kernel)
theorem iw_345 : (Cond.code yX3_hedge cX3_hedge 4 (some .int)) ∈ tb := tb_in 345 (by decide +kernel) (by decide +kernel)
theorem iw_346 : (Cond.methodLink RL 48 yX3_call) ∈ tb := tb_in 346 (by decide +kernel) (by decide +kernel)
theorem iw_347 : (Cond.instanceMethod yX3_call) ∈ tb := tb_in 347 (by decide +kernel) (by decide +kernel)
theorem iw_348 : (Cond.selects RX3 yX3_call yX3_call) ∈ tb := tb_in 348 (by decide +kernel) (by decide +kernel)
theorem iw_349 : (Cond.code yX3_call cX3_call 6 (some .int)) ∈ tb := tb_in 349 (by decide +kernel) (by decide +kernel)
theorem iw_350 : (Cond.constant RX3 92 (65535)) ∈ tb := tb_in 350 (by decide +kernel) (by decide +kernel)
theorem iw_351 : (Cond.classLink RX3 93 "FrontDoor$Call") ∈ tb := tb_in 351 (by decide +kernel) (by decide +kernel)
theorem iw_352 : (Cond.instantiable RX1 12) ∈ tb := tb_in 352 (by decide +kernel) (by decide +kernel)
theorem iw_353 : (Cond.methodLink RX3 98 yX1_init) ∈ tb := tb_in 353 (by decide +kernel) (by decide +kernel)
theorem iw_354 : (Cond.instanceMethod yX1_init) ∈ tb := tb_in 354 (by decide +kernel) (by decide +kernel)
theorem iw_355 : (Cond.code yX1_init cX1_init 7 none) ∈ tb := tb_in 355 (by decide +kernel) (by decide +kernel)
theorem iw_356 : (Cond.methodLink RX1 3 objectInit) ∈ tb := tb_in 356 (by decide +kernel) (by decide +kernel)
theorem iw_357 : (Cond.fieldLink RX1 9 "FrontDoor$Call" "number" "I") ∈ tb := tb_in 357 (by decide +kernel) (by decide +kernel)
theorem iw_358 : (Cond.fieldLink RX3 109 "FrontDoor$Call" "number" "I") ∈ tb := tb_in 358 (by decide +kernel) (by decide +kernel)
theorem iw_359 : (Cond.fieldLink RX1 15 "FrontDoor$Call" "key" "I") ∈ tb := tb_in 359 (by decide +kernel) (by decide +kernel)
theorem iw_360 : (Cond.fieldLink RX3 199 "FrontDoor$Call" "key" "I") ∈ tb := tb_in 360 (by decide +kernel) (by decide +kernel)
theorem iw_361 : (Cond.fieldLink RX1 18 "FrontDoor$Call" "grade" "I") ∈ tb := tb_in 361 (by decide +kernel) (by decide +kernel)
theorem iw_362 : (Cond.fieldLink RX1 21 "FrontDoor$Call" "came" "I") ∈ tb := tb_in 362 (by decide +kernel) (by decide +kernel)
theorem iw_363 : (Cond.fieldLink RX1 24 "FrontDoor$Call" "due" "I") ∈ tb := tb_in 363 (by decide +kernel) (by decide +kernel)
theorem iw_364 : (Cond.fieldLink RX3 287 "FrontDoor$Call" "due" "I") ∈ tb := tb_in 364 (by decide +kernel) (by decide +kernel)
theorem iw_365 : (Cond.fieldLink RX1 27 "FrontDoor$Call" "safe" "Z") ∈ tb := tb_in 365 (by decide +kernel) (by decide +kernel)
theorem iw_366 : (Cond.fieldLink RX3 284 "FrontDoor$Call" "safe" "Z") ∈ tb := tb_in 366 (by decide +kernel) (by decide +kernel)
theorem iw_367 : (Cond.fieldLink RX1 31 "FrontDoor$Call" "state" "I") ∈ tb := tb_in 367 (by decide +kernel) (by decide +kernel)
theorem iw_368 : (Cond.fieldLink RX3 118 "FrontDoor$Call" "state" "I") ∈ tb := tb_in 368 (by decide +kernel) (by decide +kernel)
theorem iw_369 : (Cond.fieldLink RX1 47 "FrontDoor$Call" "tried" "I") ∈ tb := tb_in 369 (by decide +kernel) (by decide +kernel)
theorem iw_370 : (Cond.fieldLink RX3 202 "FrontDoor$Call" "tried" "I") ∈ tb := tb_in 370 (by decide +kernel) (by decide +kernel)
theorem iw_371 : (Cond.fieldLink RX1 34 "FrontDoor$Call" "ended" "I") ∈ tb := tb_in 371 (by decide +kernel) (by decide +kernel)
theorem iw_372 : (Cond.fieldLink RX3 226 "FrontDoor$Call" "ended" "I") ∈ tb := tb_in 372 (by decide +kernel) (by decide +kernel)
theorem iw_373 : (Cond.fieldLink RX1 37 "FrontDoor$Call" "answerer" "I") ∈ tb := tb_in 373 (by decide +kernel) (by decide +kernel)
theorem iw_374 : (Cond.fieldLink RX3 274 "FrontDoor$Call" "answerer" "I") ∈ tb := tb_in 374 (by decide +kernel) (by decide +kernel)
theorem iw_375 : (Cond.fieldLink RX1 40 "FrontDoor$Call" "first" "LFrontDoor$Asking;") ∈ tb := tb_in 375 (by decide +kernel) (by decide +kernel)
theorem iw_376 : (Cond.fieldLink RX3 247 "FrontDoor$Call" "first" "LFrontDoor$Asking;") ∈ tb := tb_in 376 (by decide +kernel) (by decide +kernel)
theorem iw_377 : (Cond.fieldLink RX1 44 "FrontDoor$Call" "second" "LFrontDoor$Asking;") ∈ tb := tb_in 377 (by decide +kernel) (by decide +kernel)
theorem iw_378 : (Cond.fieldLink RX3 251 "FrontDoor$Call" "second" "LFrontDoor$Asking;") ∈ tb := tb_in 378 (by decide +kernel) (by decide +kernel)
theorem iw_404 : (Cond.methodLink RX3 101 yX3_askByRule) ∈ tb := tb_in 404 (by decide +kernel) (by decide +kernel)
theorem iw_406 : (Cond.instanceMethod yX3_askByRule) ∈ tb := tb_in 406 (by decide +kernel) (by decide +kernel)
theorem iw_407 : (Cond.code yX3_askByRule cX3_askByRule 3 (some .boolean)) ∈ tb := tb_in 407 (by decide +kernel) (by decide +kernel)
theorem iw_408 : (Cond.methodLink RX3 140 yX3_chosen) ∈ tb := tb_in 408 (by decide +kernel) (by decide +kernel)
theorem iw_410 : (Cond.instanceMethod yX3_chosen) ∈ tb := tb_in 410 (by decide +kernel) (by decide +kernel)
theorem iw_411 : (Cond.code yX3_chosen cX3_chosen 4 (some (.object "FrontDoor$Server"))) ∈ tb := tb_in 411 (by decide +kernel) (by decide +kernel)
theorem iw_412 : (Cond.methodLink RX3 173 yX3_byTurn) ∈ tb := tb_in 412 (by decide +kernel) (by decide +kernel)
theorem iw_414 : (Cond.instanceMethod yX3_byTurn) ∈ tb := tb_in 414 (by decide +kernel) (by decide +kernel)
theorem iw_415 : (Cond.code yX3_byTurn cX3_byTurn 5 (some (.object "FrontDoor$Server"))) ∈ tb := tb_in 415 (by decide +kernel) (by decide +kernel)
theorem iw_416 : (Cond.methodLink RX3 182 yX2_mayBeAsked) ∈ tb := tb_in 416 (by decide +kernel) (by decide +kernel)
theorem iw_417 : (Cond.instanceMethod yX2_mayBeAsked) ∈ tb := tb_in 417 (by decide +kernel) (by decide +kernel)
theorem iw_418 : (Cond.selects RX2 yX2_mayBeAsked yX2_mayBeAsked) ∈ tb := tb_in 418 (by decide +kernel) (by decide +kernel)
theorem iw_419 : (Cond.code yX2_mayBeAsked cX2_mayBeAsked 2 (some .boolean)) ∈ tb := tb_in 419 (by decide +kernel) (by decide +kernel)
theorem iw_420 : (Cond.methodLink RX3 176 yX3_byRing) ∈ tb := tb_in 420 (by decide +kernel) (by decide +kernel)
theorem iw_422 : (Cond.instanceMethod yX3_byRing) ∈ tb := tb_in 422 (by decide +kernel) (by decide +kernel)
theorem iw_423 : (Cond.code yX3_byRing cX3_byRing 7 (some (.object "FrontDoor$Server"))) ∈ tb := tb_in 423 (by decide +kernel) (by decide +kernel)
theorem iw_424 : (Cond.constant RX3 195 (65536)) ∈ tb := tb_in 424 (by decide +kernel) (by decide +kernel)
theorem iw_425 : (Cond.methodLink RX3 196 yX2_wayFrom) ∈ tb := tb_in 425 (by decide +kernel) (by decide +kernel)
theorem iw_426 : (Cond.instanceMethod yX2_wayFrom) ∈ tb := tb_in 426 (by decide +kernel) (by decide +kernel)
theorem iw_427 : (Cond.selects RX2 yX2_wayFrom yX2_wayFrom) ∈ tb := tb_in 427 (by decide +kernel) (by decide +kernel)
theorem iw_428 : (Cond.code yX2_wayFrom cX2_wayFrom 4 (some .int)) ∈ tb := tb_in 428 (by decide +kernel) (by decide +kernel)
theorem iw_429 : (Cond.constant RX2 40 (65535)) ∈ tb := tb_in 429 (by decide +kernel) (by decide +kernel)
theorem iw_430 : (Cond.methodLink RX2 41 yX2_placeOfMark) ∈ tb := tb_in 430 (by decide +kernel) (by decide +kernel)
theorem iw_431 : (Cond.instanceMethod yX2_placeOfMark) ∈ tb := tb_in 431 (by decide +kernel) (by decide +kernel)
theorem iw_432 : (Cond.selects RX2 yX2_placeOfMark yX2_placeOfMark) ∈ tb := tb_in 432 (by decide +kernel) (by decide +kernel)
theorem iw_433 : (Cond.code yX2_placeOfMark cX2_placeOfMark 2 (some .int)) ∈ tb := tb_in 433 (by decide +kernel) (by decide +kernel)
theorem iw_434 : (Cond.constant RX2 39 (40503)) ∈ tb := tb_in 434 (by decide +kernel) (by decide +kernel)
theorem iw_435 : (Cond.methodLink RX2 45 Lib.Math.min.name) ∈ tb := tb_in 435 (by decide +kernel) (by decide +kernel)
theorem iw_436 : (Cond.methodLink RX3 179 yX3_byFewest) ∈ tb := tb_in 436 (by decide +kernel) (by decide +kernel)
theorem iw_438 : (Cond.instanceMethod yX3_byFewest) ∈ tb := tb_in 438 (by decide +kernel) (by decide +kernel)
theorem iw_439 : (Cond.code yX3_byFewest cX3_byFewest 7 (some (.object "FrontDoor$Server"))) ∈ tb := tb_in 439 (by decide +kernel) (by decide +kernel)
theorem iw_440 : (Cond.methodLink RX3 205 yX3_settleCredits) ∈ tb := tb_in 440 (by decide +kernel) (by decide +kernel)
theorem iw_442 : (Cond.instanceMethod yX3_settleCredits) ∈ tb := tb_in 442 (by decide +kernel) (by decide +kernel)
theorem iw_443 : (Cond.code yX3_settleCredits cX3_settleCredits 6 none) ∈ tb := tb_in 443 (by decide +kernel) (by decide +kernel)
theorem iw_444 : (Cond.methodLink RX3 209 yX2_takeAsking) ∈ tb := tb_in 444 (by decide +kernel) (by decide +kernel)
theorem iw_445 : (Cond.instanceMethod yX2_takeAsking) ∈ tb := tb_in 445 (by decide +kernel) (by decide +kernel)
theorem iw_446 : (Cond.selects RX2 yX2_takeAsking yX2_takeAsking) ∈ tb := tb_in 446 (by decide +kernel) (by decide +kernel)
theorem iw_447 : (Cond.code yX2_takeAsking cX2_takeAsking 4 (some (.object "FrontDoor$Asking"))) ∈ tb := tb_in 447 (by decide +kernel) (by decide +kernel)
theorem iw_448 : (Cond.classLink RX2 57 RX0) ∈ tb := tb_in 448 (by decide +kernel) (by decide +kernel)
theorem iw_449 : (Cond.instantiable RX0 4) ∈ tb := tb_in 449 (by decide +kernel) (by decide +kernel)
theorem iw_450 : (Cond.methodLink RX2 59 yX0_init) ∈ tb := tb_in 450 (by decide +kernel) (by decide +kernel)
theorem iw_451 : (Cond.instanceMethod yX0_init) ∈ tb := tb_in 451 (by decide +kernel) (by decide +kernel)
theorem iw_452 : (Cond.code yX0_init cX0_init 5 none) ∈ tb := tb_in 452 (by decide +kernel) (by decide +kernel)
theorem iw_453 : (Cond.methodLink RX0 1 objectInit) ∈ tb := tb_in 453 (by decide +kernel) (by decide +kernel)
theorem iw_454 : (Cond.fieldLink RX0 7 "FrontDoor$Asking" "server" "LFrontDoor$Server;") ∈ tb := tb_in 454 (by decide +kernel) (by decide +kernel)
theorem iw_455 : (Cond.fieldLink RX1 50 "FrontDoor$Asking" "server" "LFrontDoor$Server;") ∈ tb := tb_in 455 (by decide +kernel) (by decide +kernel)
theorem iw_456 : (Cond.fieldLink RX3 267 "FrontDoor$Asking" "server" "LFrontDoor$Server;") ∈ tb := tb_in 456 (by decide +kernel) (by decide +kernel)
theorem iw_457 : (Cond.fieldLink RX0 13 "FrontDoor$Asking" "since" "I") ∈ tb := tb_in 457 (by decide +kernel) (by decide +kernel)
theorem iw_458 : (Cond.fieldLink RX3 309 "FrontDoor$Asking" "since" "I") ∈ tb := tb_in 458 (by decide +kernel) (by decide +kernel)
theorem iw_459 : (Cond.fieldLink RX0 17 "FrontDoor$Asking" "over" "I") ∈ tb := tb_in 459 (by decide +kernel) (by decide +kernel)
theorem iw_460 : (Cond.fieldLink RX3 254 "FrontDoor$Asking" "over" "I") ∈ tb := tb_in 460 (by decide +kernel) (by decide +kernel)
theorem iw_461 : (Cond.fieldLink RX0 20 "FrontDoor$Asking" "fails" "Z") ∈ tb := tb_in 461 (by decide +kernel) (by decide +kernel)
theorem iw_462 : (Cond.fieldLink RX3 263 "FrontDoor$Asking" "fails" "Z") ∈ tb := tb_in 462 (by decide +kernel) (by decide +kernel)
theorem iw_472 : (Cond.methodLink RX3 213 yX1_begin) ∈ tb := tb_in 472 (by decide +kernel) (by decide +kernel)
theorem iw_473 : (Cond.instanceMethod yX1_begin) ∈ tb := tb_in 473 (by decide +kernel) (by decide +kernel)
theorem iw_474 : (Cond.selects RX1 yX1_begin yX1_begin) ∈ tb := tb_in 474 (by decide +kernel) (by decide +kernel)
theorem iw_475 : (Cond.code yX1_begin cX1_begin 2 none) ∈ tb := tb_in 475 (by decide +kernel) (by decide +kernel)
theorem iw_476 : (Cond.methodLink RX3 105 yX3_joinLine) ∈ tb := tb_in 476 (by decide +kernel) (by decide +kernel)
theorem iw_478 : (Cond.instanceMethod yX3_joinLine) ∈ tb := tb_in 478 (by decide +kernel) (by decide +kernel)
theorem iw_479 : (Cond.code yX3_joinLine cX3_joinLine 3 none) ∈ tb := tb_in 479 (by decide +kernel) (by decide +kernel)
theorem iw_480 : (Cond.methodLink RX3 217 yX1_goesAheadOf) ∈ tb := tb_in 480 (by decide +kernel) (by decide +kernel)
theorem iw_481 : (Cond.instanceMethod yX1_goesAheadOf) ∈ tb := tb_in 481 (by decide +kernel) (by decide +kernel)
theorem iw_482 : (Cond.selects RX1 yX1_goesAheadOf yX1_goesAheadOf) ∈ tb := tb_in 482 (by decide +kernel) (by decide +kernel)
theorem iw_483 : (Cond.code yX1_goesAheadOf cX1_goesAheadOf 2 (some .boolean)) ∈ tb := tb_in 483 (by decide +kernel) (by decide +kernel)
theorem iw_484 : (Cond.methodLink RX3 220 yJx4a65c_add_7a177) ∈ tb := tb_in 484 (by decide +kernel) (by decide +kernel)
theorem iw_485 : (Cond.instanceMethod yJx4a65c_add_7a177) ∈ tb := tb_in 485 (by decide +kernel) (by decide +kernel)
theorem iw_486 : (Cond.selects RJx4a65c yJx4a65c_add_7a177 yJx4a65c_add_7a177) ∈ tb := tb_in 486 (by decide +kernel) (by decide +kernel)
theorem iw_487 : (Cond.code yJx4a65c_add_7a177 cJx4a65c_add_7a177 5 none) ∈ tb := tb_in 487 (by decide +kernel) (by decide +kernel)
theorem iw_488 : (Cond.methodLink RJx4a65c 135 yJx4a65c_rangeCheckForAdd_d00df) ∈ tb := tb_in 488 (by decide +kernel) (by decide +kernel)
theorem iw_490 : (Cond.instanceMethod yJx4a65c_rangeCheckForAdd_d00df) ∈ tb := tb_in 490 (by decide +kernel) (by decide +kernel)
theorem iw_491 : (Cond.code yJx4a65c_rangeCheckForAdd_d00df cJx4a65c_rangeCheckForAdd_d00df 2 none) ∈ tb := tb_in 491 (by decide +kernel) (by decide +kernel)
theorem iw_492 : (Cond.methodLink RJx4a65c 112 arraycopyName) ∈ tb := tb_in 492 (by decide +kernel) (by decide +kernel)
theorem iw_493 : (Cond.methodLink RL 53 yX3_off) ∈ tb := tb_in 493 (by decide +kernel) (by decide +kernel)
theorem iw_494 : (Cond.instanceMethod yX3_off) ∈ tb := tb_in 494 (by decide +kernel) (by decide +kernel)
theorem iw_495 : (Cond.selects RX3 yX3_off yX3_off) ∈ tb := tb_in 495 (by decide +kernel) (by decide +kernel)
theorem iw_496 : (Cond.code yX3_off cX3_off 3 (some .int)) ∈ tb := tb_in 496 (by decide +kernel) (by decide +kernel)
theorem iw_497 : (Cond.methodLink RX3 110 yX3_callAt) ∈ tb := tb_in 497 (by decide +kernel) (by decide +kernel)
theorem iw_499 : (Cond.instanceMethod yX3_callAt) ∈ tb := tb_in 499 (by decide +kernel) (by decide +kernel)
theorem iw_500 : (Cond.code yX3_callAt cX3_callAt 2 (some (.object "FrontDoor$Call"))) ∈ tb := tb_in 500 (by decide +kernel) (by decide +kernel)
theorem iw_501 : (Cond.methodLink RX3 114 yX1_hasEnded) ∈ tb := tb_in 501 (by decide +kernel) (by decide +kernel)
theorem iw_502 : (Cond.instanceMethod yX1_hasEnded) ∈ tb := tb_in 502 (by decide +kernel) (by decide +kernel)
theorem iw_503 : (Cond.selects RX1 yX1_hasEnded yX1_hasEnded) ∈ tb := tb_in 503 (by decide +kernel) (by decide +kernel)
theorem iw_504 : (Cond.code yX1_hasEnded cX1_hasEnded 1 (some .boolean)) ∈ tb := tb_in 504 (by decide +kernel) (by decide +kernel)
theorem iw_505 : (Cond.methodLink RX3 121 yX3_leaveLine) ∈ tb := tb_in 505 (by decide +kernel) (by decide +kernel)
theorem iw_507 : (Cond.instanceMethod yX3_leaveLine) ∈ tb := tb_in 507 (by decide +kernel) (by decide +kernel)
theorem iw_508 : (Cond.code yX3_leaveLine cX3_leaveLine 3 none) ∈ tb := tb_in 508 (by decide +kernel) (by decide +kernel)
theorem iw_509 : (Cond.methodLink RX3 223 yJx4a65c_remove_915e3) ∈ tb := tb_in 509 (by decide +kernel) (by decide +kernel)
theorem iw_510 : (Cond.instanceMethod yJx4a65c_remove_915e3) ∈ tb := tb_in 510 (by decide +kernel) (by decide +kernel)
theorem iw_511 : (Cond.selects RJx4a65c yJx4a65c_remove_915e3 yJx4a65c_remove_915e3) ∈ tb := tb_in 511 (by decide +kernel) (by decide +kernel)
theorem iw_512 : (Cond.code yJx4a65c_remove_915e3 cJx4a65c_remove_915e3 4 (some (.object "java/lang/Object"))) ∈ tb := tb_in 512 (by decide +kernel) (by decide +kernel)
theorem iw_513 : (Cond.methodLink RJx4a65c 144 yJx4a65c_fastRemove_b59b0) ∈ tb := tb_in 513 (by decide +kernel) (by decide +kernel)
theorem iw_515 : (Cond.instanceMethod yJx4a65c_fastRemove_b59b0) ∈ tb := tb_in 515 (by decide +kernel) (by decide +kernel)
theorem iw_516 : (Cond.code yJx4a65c_fastRemove_b59b0 cJx4a65c_fastRemove_b59b0 4 none) ∈ tb := tb_in 516 (by decide +kernel) (by decide +kernel)
theorem iw_517 : (Cond.methodLink RX3 124 yX1_callOffAll) ∈ tb := tb_in 517 (by decide +kernel) (by decide +kernel)
theorem iw_518 : (Cond.instanceMethod yX1_callOffAll) ∈ tb := tb_in 518 (by decide +kernel) (by decide +kernel)
theorem iw_519 : (Cond.selects RX1 yX1_callOffAll yX1_callOffAll) ∈ tb := tb_in 519 (by decide +kernel) (by decide +kernel)
theorem iw_520 : (Cond.code yX1_callOffAll cX1_callOffAll 1 none) ∈ tb := tb_in 520 (by decide +kernel) (by decide +kernel)
theorem iw_521 : (Cond.methodLink RX1 62 yX1_letGo) ∈ tb := tb_in 521 (by decide +kernel) (by decide +kernel)
theorem iw_522 : (Cond.instanceMethod yX1_letGo) ∈ tb := tb_in 522 (by decide +kernel) (by decide +kernel)
theorem iw_523 : (Cond.selects RX1 yX1_letGo yX1_letGo) ∈ tb := tb_in 523 (by decide +kernel) (by decide +kernel)
theorem iw_524 : (Cond.code yX1_letGo cX1_letGo 2 none) ∈ tb := tb_in 524 (by decide +kernel) (by decide +kernel)
theorem iw_525 : (Cond.methodLink RX3 127 yX3_end) ∈ tb := tb_in 525 (by decide +kernel) (by decide +kernel)
theorem iw_527 : (Cond.instanceMethod yX3_end) ∈ tb := tb_in 527 (by decide +kernel) (by decide +kernel)
theorem iw_528 : (Cond.code yX3_end cX3_end 3 none) ∈ tb := tb_in 528 (by decide +kernel) (by decide +kernel)
theorem iw_529 : (Cond.methodLink RX3 131 yX3_dropEnded) ∈ tb := tb_in 529 (by decide +kernel) (by decide +kernel)
theorem iw_531 : (Cond.instanceMethod yX3_dropEnded) ∈ tb := tb_in 531 (by decide +kernel) (by decide +kernel)
theorem iw_532 : (Cond.code yX3_dropEnded cX3_dropEnded 2 none) ∈ tb := tb_in 532 (by decide +kernel) (by decide +kernel)
theorem iw_533 : (Cond.methodLink RL 57 yX3_ticks) ∈ tb := tb_in 533 (by decide +kernel) (by decide +kernel)
theorem iw_534 : (Cond.instanceMethod yX3_ticks) ∈ tb := tb_in 534 (by decide +kernel) (by decide +kernel)
theorem iw_535 : (Cond.selects RX3 yX3_ticks yX3_ticks) ∈ tb := tb_in 535 (by decide +kernel) (by decide +kernel)
theorem iw_536 : (Cond.code yX3_ticks cX3_ticks 5 (some .int)) ∈ tb := tb_in 536 (by decide +kernel) (by decide +kernel)
theorem iw_537 : (Cond.methodLink RX3 137 yX3_passTick) ∈ tb := tb_in 537 (by decide +kernel) (by decide +kernel)
theorem iw_539 : (Cond.instanceMethod yX3_passTick) ∈ tb := tb_in 539 (by decide +kernel) (by decide +kernel)
theorem iw_540 : (Cond.code yX3_passTick cX3_passTick 1 none) ∈ tb := tb_in 540 (by decide +kernel) (by decide +kernel)
theorem iw_541 : (Cond.methodLink RX3 229 yX3_takeWhatIsOver) ∈ tb := tb_in 541 (by decide +kernel) (by decide +kernel)
theorem iw_543 : (Cond.instanceMethod yX3_takeWhatIsOver) ∈ tb := tb_in 543 (by decide +kernel) (by decide +kernel)
theorem iw_544 : (Cond.code yX3_takeWhatIsOver cX3_takeWhatIsOver 5 none) ∈ tb := tb_in 544 (by decide +kernel) (by decide +kernel)
theorem iw_545 : (Cond.methodLink RX3 259 yX3_takeAnswer) ∈ tb := tb_in 545 (by decide +kernel) (by decide +kernel)
theorem iw_547 : (Cond.instanceMethod yX3_takeAnswer) ∈ tb := tb_in 547 (by decide +kernel) (by decide +kernel)
theorem iw_548 : (Cond.code yX3_takeAnswer cX3_takeAnswer 3 none) ∈ tb := tb_in 548 (by decide +kernel) (by decide +kernel)
theorem iw_549 : (Cond.methodLink RX3 271 yX2_answer) ∈ tb := tb_in 549 (by decide +kernel) (by decide +kernel)
theorem iw_550 : (Cond.instanceMethod yX2_answer) ∈ tb := tb_in 550 (by decide +kernel) (by decide +kernel)
theorem iw_551 : (Cond.selects RX2 yX2_answer yX2_answer) ∈ tb := tb_in 551 (by decide +kernel) (by decide +kernel)
theorem iw_552 : (Cond.code yX2_answer cX2_answer 1 none) ∈ tb := tb_in 552 (by decide +kernel) (by decide +kernel)
theorem iw_553 : (Cond.methodLink RX3 277 yX1_letGo) ∈ tb := tb_in 553 (by decide +kernel) (by decide +kernel)
theorem iw_554 : (Cond.methodLink RX3 280 yX3_failureOf) ∈ tb := tb_in 554 (by decide +kernel) (by decide +kernel)
theorem iw_556 : (Cond.instanceMethod yX3_failureOf) ∈ tb := tb_in 556 (by decide +kernel) (by decide +kernel)
theorem iw_557 : (Cond.code yX3_failureOf cX3_failureOf 2 none) ∈ tb := tb_in 557 (by decide +kernel) (by decide +kernel)
theorem iw_558 : (Cond.methodLink RX3 296 yX3_oneMoreOutIsTooMany) ∈ tb := tb_in 558 (by decide +kernel) (by decide +kernel)
theorem iw_560 : (Cond.instanceMethod yX3_oneMoreOutIsTooMany) ∈ tb := tb_in 560 (by decide +kernel) (by decide +kernel)
theorem iw_561 : (Cond.code yX3_oneMoreOutIsTooMany cX3_oneMoreOutIsTooMany 5 (some .boolean)) ∈ tb := tb_in 561 (by decide +kernel) (by decide +kernel)
theorem iw_562 : (Cond.methodLink RX3 299 yX2_goOut) ∈ tb := tb_in 562 (by decide +kernel) (by decide +kernel)
theorem iw_563 : (Cond.instanceMethod yX2_goOut) ∈ tb := tb_in 563 (by decide +kernel) (by decide +kernel)
theorem iw_564 : (Cond.selects RX2 yX2_goOut yX2_goOut) ∈ tb := tb_in 564 (by decide +kernel) (by decide +kernel)
theorem iw_565 : (Cond.code yX2_goOut cX2_goOut 2 none) ∈ tb := tb_in 565 (by decide +kernel) (by decide +kernel)
theorem iw_566 : (Cond.methodLink RX3 290 yX3_budgetHolds) ∈ tb := tb_in 566 (by decide +kernel) (by decide +kernel)
theorem iw_568 : (Cond.instanceMethod yX3_budgetHolds) ∈ tb := tb_in 568 (by decide +kernel) (by decide +kernel)
theorem iw_569 : (Cond.code yX3_budgetHolds cX3_budgetHolds 1 (some .boolean)) ∈ tb := tb_in 569 (by decide +kernel) (by decide +kernel)
theorem iw_570 : (Cond.methodLink RX3 232 yX3_meetDues) ∈ tb := tb_in 570 (by decide +kernel) (by decide +kernel)
theorem iw_572 : (Cond.instanceMethod yX3_meetDues) ∈ tb := tb_in 572 (by decide +kernel) (by decide +kernel)
theorem iw_573 : (Cond.code yX3_meetDues cX3_meetDues 3 none) ∈ tb := tb_in 573 (by decide +kernel) (by decide +kernel)
theorem iw_574 : (Cond.methodLink RX3 303 yX3_failByDue) ∈ tb := tb_in 574 (by decide +kernel) (by decide +kernel)
theorem iw_576 : (Cond.instanceMethod yX3_failByDue) ∈ tb := tb_in 576 (by decide +kernel) (by decide +kernel)
theorem iw_577 : (Cond.code yX3_failByDue cX3_failByDue 4 none) ∈ tb := tb_in 577 (by decide +kernel) (by decide +kernel)
theorem iw_578 : (Cond.methodLink RX3 235 yX3_tryThoseOut) ∈ tb := tb_in 578 (by decide +kernel) (by decide +kernel)
theorem iw_580 : (Cond.instanceMethod yX3_tryThoseOut) ∈ tb := tb_in 580 (by decide +kernel) (by decide +kernel)
theorem iw_581 : (Cond.code yX3_tryThoseOut cX3_tryThoseOut 3 none) ∈ tb := tb_in 581 (by decide +kernel) (by decide +kernel)
theorem iw_582 : (Cond.methodLink RX3 238 yX3_hedgeSlow) ∈ tb := tb_in 582 (by decide +kernel) (by decide +kernel)
theorem iw_584 : (Cond.instanceMethod yX3_hedgeSlow) ∈ tb := tb_in 584 (by decide +kernel) (by decide +kernel)
theorem iw_585 : (Cond.code yX3_hedgeSlow cX3_hedgeSlow 5 none) ∈ tb := tb_in 585 (by decide +kernel) (by decide +kernel)
theorem iw_586 : (Cond.methodLink RX3 241 yX3_askQueued) ∈ tb := tb_in 586 (by decide +kernel) (by decide +kernel)
theorem iw_588 : (Cond.instanceMethod yX3_askQueued) ∈ tb := tb_in 588 (by decide +kernel) (by decide +kernel)
theorem iw_589 : (Cond.code yX3_askQueued cX3_askQueued 4 none) ∈ tb := tb_in 589 (by decide +kernel) (by decide +kernel)
theorem iw_590 : (Cond.methodLink RX3 244 yX3_letDrainedGo) ∈ tb := tb_in 590 (by decide +kernel) (by decide +kernel)
theorem iw_592 : (Cond.instanceMethod yX3_letDrainedGo) ∈ tb := tb_in 592 (by decide +kernel) (by decide +kernel)
theorem iw_593 : (Cond.code yX3_letDrainedGo cX3_letDrainedGo 3 none) ∈ tb := tb_in 593 (by decide +kernel) (by decide +kernel)
theorem iw_594 : (Cond.methodLink RL 61 yX3_pick) ∈ tb := tb_in 594 (by decide +kernel) (by decide +kernel)
theorem iw_595 : (Cond.instanceMethod yX3_pick) ∈ tb := tb_in 595 (by decide +kernel) (by decide +kernel)
theorem iw_596 : (Cond.selects RX3 yX3_pick yX3_pick) ∈ tb := tb_in 596 (by decide +kernel) (by decide +kernel)
theorem iw_597 : (Cond.code yX3_pick cX3_pick 4 (some .int)) ∈ tb := tb_in 597 (by decide +kernel) (by decide +kernel)
theorem iw_598 : (Cond.methodLink RL 65 yX3_callOf) ∈ tb := tb_in 598 (by decide +kernel) (by decide +kernel)
theorem iw_599 : (Cond.instanceMethod yX3_callOf) ∈ tb := tb_in 599 (by decide +kernel) (by decide +kernel)
theorem iw_600 : (Cond.selects RX3 yX3_callOf yX3_callOf) ∈ tb := tb_in 600 (by decide +kernel) (by decide +kernel)
theorem iw_601 : (Cond.code yX3_callOf cX3_callOf 4 (some .int)) ∈ tb := tb_in 601 (by decide +kernel) (by decide +kernel)
theorem iw_602 : (Cond.methodLink RX3 144 yX1_tell) ∈ tb := tb_in 602 (by decide +kernel) (by decide +kernel)
theorem iw_603 : (Cond.instanceMethod yX1_tell) ∈ tb := tb_in 603 (by decide +kernel) (by decide +kernel)
theorem iw_604 : (Cond.selects RX1 yX1_tell yX1_tell) ∈ tb := tb_in 604 (by decide +kernel) (by decide +kernel)
theorem iw_605 : (Cond.code yX1_tell cX1_tell 2 (some .int)) ∈ tb := tb_in 605 (by decide +kernel) (by decide +kernel)
theorem iw_606 : (Cond.methodLink RL 70 yX3_serverOf) ∈ tb := tb_in 606 (by decide +kernel) (by decide +kernel)
theorem iw_607 : (Cond.instanceMethod yX3_serverOf) ∈ tb := tb_in 607 (by decide +kernel) (by decide +kernel)
theorem iw_608 : (Cond.selects RX3 yX3_serverOf yX3_serverOf) ∈ tb := tb_in 608 (by decide +kernel) (by decide +kernel)
theorem iw_609 : (Cond.code yX3_serverOf cX3_serverOf 4 (some .int)) ∈ tb := tb_in 609 (by decide +kernel) (by decide +kernel)
theorem iw_610 : (Cond.methodLink RX3 147 yX2_tell) ∈ tb := tb_in 610 (by decide +kernel) (by decide +kernel)
theorem iw_611 : (Cond.methodLink RL 74 yX3_mark) ∈ tb := tb_in 611 (by decide +kernel) (by decide +kernel)
theorem iw_612 : (Cond.instanceMethod yX3_mark) ∈ tb := tb_in 612 (by decide +kernel) (by decide +kernel)
theorem iw_613 : (Cond.selects RX3 yX3_mark yX3_mark) ∈ tb := tb_in 613 (by decide +kernel) (by decide +kernel)
theorem iw_614 : (Cond.code yX3_mark cX3_mark 4 (some .int)) ∈ tb := tb_in 614 (by decide +kernel) (by decide +kernel)
theorem iw_615 : (Cond.methodLink RX3 148 yX2_placeOfMark) ∈ tb := tb_in 615 (by decide +kernel) (by decide +kernel)
theorem iw_616 : (Cond.methodLink RL 78 yX3_queue) ∈ tb := tb_in 616 (by decide +kernel) (by decide +kernel)
theorem iw_617 : (Cond.instanceMethod yX3_queue) ∈ tb := tb_in 617 (by decide +kernel) (by decide +kernel)
theorem iw_618 : (Cond.selects RX3 yX3_queue yX3_queue) ∈ tb := tb_in 618 (by decide +kernel) (by decide +kernel)
theorem iw_619 : (Cond.code yX3_queue cX3_queue 2 (some .int)) ∈ tb := tb_in 619 (by decide +kernel) (by decide +kernel)
theorem iw_620 : (Cond.methodLink RL 82 yX3_share) ∈ tb := tb_in 620 (by decide +kernel) (by decide +kernel)
theorem iw_621 : (Cond.instanceMethod yX3_share) ∈ tb := tb_in 621 (by decide +kernel) (by decide +kernel)
theorem iw_622 : (Cond.selects RX3 yX3_share yX3_share) ∈ tb := tb_in 622 (by decide +kernel) (by decide +kernel)
theorem iw_623 : (Cond.code yX3_share cX3_share 4 (some .int)) ∈ tb := tb_in 623 (by decide +kernel) (by decide +kernel)
theorem iw_624 : (Cond.methodLink RX3 155 yX3_askingsSoFar) ∈ tb := tb_in 624 (by decide +kernel) (by decide +kernel)
theorem iw_626 : (Cond.instanceMethod yX3_askingsSoFar) ∈ tb := tb_in 626 (by decide +kernel) (by decide +kernel)
theorem iw_627 : (Cond.code yX3_askingsSoFar cX3_askingsSoFar 3 (some .int)) ∈ tb := tb_in 627 (by decide +kernel) (by decide +kernel)
theorem iw_628 : (Cond.methodLink RL 86 yX3_count) ∈ tb := tb_in 628 (by decide +kernel) (by decide +kernel)
theorem iw_629 : (Cond.instanceMethod yX3_count) ∈ tb := tb_in 629 (by decide +kernel) (by decide +kernel)
theorem iw_630 : (Cond.selects RX3 yX3_count yX3_count) ∈ tb := tb_in 630 (by decide +kernel) (by decide +kernel)
theorem iw_631 : (Cond.code yX3_count cX3_count 2 (some .int)) ∈ tb := tb_in 631 (by decide +kernel) (by decide +kernel)
theorem iw_632 : (Cond.methodLink RX3 161 yX3_callsThatAre) ∈ tb := tb_in 632 (by decide +kernel) (by decide +kernel)
theorem iw_634 : (Cond.instanceMethod yX3_callsThatAre) ∈ tb := tb_in 634 (by decide +kernel) (by decide +kernel)
theorem iw_635 : (Cond.code yX3_callsThatAre cX3_callsThatAre 4 (some .int)) ∈ tb := tb_in 635 (by decide +kernel) (by decide +kernel)
theorem iw_636 : (Cond.methodLink RX3 170 yX3_openAskings) ∈ tb := tb_in 636 (by decide +kernel) (by decide +kernel)
theorem iw_638 : (Cond.instanceMethod yX3_openAskings) ∈ tb := tb_in 638 (by decide +kernel) (by decide +kernel)
theorem iw_639 : (Cond.code yX3_openAskings cX3_openAskings 3 (some .int)) ∈ tb := tb_in 639 (by decide +kernel) (by decide +kernel)
theorem iw_640 : (Cond.classLink RL 10 RX4) ∈ tb := tb_in 640 (by decide +kernel) (by decide +kernel)
theorem iw_641 : (Cond.instantiable RX4 43) ∈ tb := tb_in 641 (by decide +kernel) (by decide +kernel)
theorem iw_642 : (Cond.methodLink RL 12 yX4_init) ∈ tb := tb_in 642 (by decide +kernel) (by decide +kernel)
theorem iw_643 : (Cond.instanceMethod yX4_init) ∈ tb := tb_in 643 (by decide +kernel) (by decide +kernel)
theorem iw_644 : (Cond.code yX4_init cX4_init 1 none) ∈ tb := tb_in 644 (by decide +kernel) (by decide +kernel)
theorem iw_645 : (Cond.methodLink RX4 1 objectInit) ∈ tb := tb_in 645 (by decide +kernel) (by decide +kernel)
theorem iw_646 : (Cond.fieldLink RX4 7 "FrontDoorModel" "refusals" "[I") ∈ tb := tb_in 646 (by decide +kernel) (by decide +kernel)
theorem iw_647 : (Cond.fieldLink RX4 163 "FrontDoorModel" "tick" "I") ∈ tb := tb_in 647 (by decide +kernel) (by decide +kernel)
theorem iw_648 : (Cond.fieldLink RX4 114 "FrontDoorModel" "servers" "I") ∈ tb := tb_in 648 (by decide +kernel) (by decide +kernel)
theorem iw_649 : (Cond.fieldLink RX4 121 "FrontDoorModel" "calls" "I") ∈ tb := tb_in 649 (by decide +kernel) (by decide +kernel)
theorem iw_650 : (Cond.fieldLink RX4 136 "FrontDoorModel" "rule" "I") ∈ tb := tb_in 650 (by decide +kernel) (by decide +kernel)
theorem iw_651 : (Cond.fieldLink RX4 13 "FrontDoorModel" "limit" "I") ∈ tb := tb_in 651 (by decide +kernel) (by decide +kernel)
theorem iw_652 : (Cond.fieldLink RX4 17 "FrontDoorModel" "budget" "I") ∈ tb := tb_in 652 (by decide +kernel) (by decide +kernel)
theorem iw_653 : (Cond.fieldLink RX4 139 "FrontDoorModel" "hedge" "I") ∈ tb := tb_in 653 (by decide +kernel) (by decide +kernel)
theorem iw_654 : (Cond.fieldLink RX4 160 "FrontDoorModel" "askings" "I") ∈ tb := tb_in 654 (by decide +kernel) (by decide +kernel)
theorem iw_655 : (Cond.fieldLink RX4 206 "FrontDoorModel" "agains" "I") ∈ tb := tb_in 655 (by decide +kernel) (by decide +kernel)
theorem iw_656 : (Cond.fieldLink RX4 209 "FrontDoorModel" "seconds" "I") ∈ tb := tb_in 656 (by decide +kernel) (by decide +kernel)
theorem iw_657 : (Cond.fieldLink RX4 20 "FrontDoorModel" "weight" "[I") ∈ tb := tb_in 657 (by decide +kernel) (by decide +kernel)
theorem iw_658 : (Cond.fieldLink RX4 23 "FrontDoorModel" "zone" "[I") ∈ tb := tb_in 658 (by decide +kernel) (by decide +kernel)
theorem iw_659 : (Cond.fieldLink RX4 26 "FrontDoorModel" "room" "[I") ∈ tb := tb_in 659 (by decide +kernel) (by decide +kernel)
theorem iw_660 : (Cond.fieldLink RX4 29 "FrontDoorModel" "pace" "[I") ∈ tb := tb_in 660 (by decide +kernel) (by decide +kernel)
theorem iw_661 : (Cond.fieldLink RX4 32 "FrontDoorModel" "breaks" "[I") ∈ tb := tb_in 661 (by decide +kernel) (by decide +kernel)
theorem iw_662 : (Cond.fieldLink RX4 35 "FrontDoorModel" "mute" "[I") ∈ tb := tb_in 662 (by decide +kernel) (by decide +kernel)
theorem iw_663 : (Cond.fieldLink RX4 38 "FrontDoorModel" "health" "[I") ∈ tb := tb_in 663 (by decide +kernel) (by decide +kernel)
theorem iw_664 : (Cond.fieldLink RX4 41 "FrontDoorModel" "open" "[I") ∈ tb := tb_in 664 (by decide +kernel) (by decide +kernel)
theorem iw_665 : (Cond.fieldLink RX4 44 "FrontDoorModel" "asked" "[I") ∈ tb := tb_in 665 (by decide +kernel) (by decide +kernel)
theorem iw_666 : (Cond.fieldLink RX4 47 "FrontDoorModel" "answers" "[I") ∈ tb := tb_in 666 (by decide +kernel) (by decide +kernel)
theorem iw_667 : (Cond.fieldLink RX4 50 "FrontDoorModel" "failures" "[I") ∈ tb := tb_in 667 (by decide +kernel) (by decide +kernel)
theorem iw_668 : (Cond.fieldLink RX4 53 "FrontDoorModel" "row" "[I") ∈ tb := tb_in 668 (by decide +kernel) (by decide +kernel)
theorem iw_669 : (Cond.fieldLink RX4 56 "FrontDoorModel" "until" "[I") ∈ tb := tb_in 669 (by decide +kernel) (by decide +kernel)
theorem iw_670 : (Cond.fieldLink RX4 59 "FrontDoorModel" "penalty" "[I") ∈ tb := tb_in 670 (by decide +kernel) (by decide +kernel)
theorem iw_671 : (Cond.fieldLink RX4 62 "FrontDoorModel" "outs" "[I") ∈ tb := tb_in 671 (by decide +kernel) (by decide +kernel)
theorem iw_672 : (Cond.fieldLink RX4 65 "FrontDoorModel" "credit" "[I") ∈ tb := tb_in 672 (by decide +kernel) (by decide +kernel)
theorem iw_673 : (Cond.fieldLink RX4 68 "FrontDoorModel" "key" "[I") ∈ tb := tb_in 673 (by decide +kernel) (by decide +kernel)
theorem iw_674 : (Cond.fieldLink RX4 71 "FrontDoorModel" "grade" "[I") ∈ tb := tb_in 674 (by decide +kernel) (by decide +kernel)
theorem iw_675 : (Cond.fieldLink RX4 74 "FrontDoorModel" "due" "[I") ∈ tb := tb_in 675 (by decide +kernel) (by decide +kernel)
theorem iw_676 : (Cond.fieldLink RX4 77 "FrontDoorModel" "state" "[I") ∈ tb := tb_in 676 (by decide +kernel) (by decide +kernel)
theorem iw_677 : (Cond.fieldLink RX4 80 "FrontDoorModel" "asks" "[I") ∈ tb := tb_in 677 (by decide +kernel) (by decide +kernel)
theorem iw_678 : (Cond.fieldLink RX4 83 "FrontDoorModel" "tried" "[I") ∈ tb := tb_in 678 (by decide +kernel) (by decide +kernel)
theorem iw_679 : (Cond.fieldLink RX4 86 "FrontDoorModel" "came" "[I") ∈ tb := tb_in 679 (by decide +kernel) (by decide +kernel)
theorem iw_680 : (Cond.fieldLink RX4 89 "FrontDoorModel" "ended" "[I") ∈ tb := tb_in 680 (by decide +kernel) (by decide +kernel)
theorem iw_681 : (Cond.fieldLink RX4 92 "FrontDoorModel" "by" "[I") ∈ tb := tb_in 681 (by decide +kernel) (by decide +kernel)
theorem iw_682 : (Cond.fieldLink RX4 95 "FrontDoorModel" "safe" "[Z") ∈ tb := tb_in 682 (by decide +kernel) (by decide +kernel)
theorem iw_683 : (Cond.fieldLink RX4 99 "FrontDoorModel" "at" "[I") ∈ tb := tb_in 683 (by decide +kernel) (by decide +kernel)
theorem iw_684 : (Cond.fieldLink RX4 102 "FrontDoorModel" "since" "[I") ∈ tb := tb_in 684 (by decide +kernel) (by decide +kernel)
theorem iw_685 : (Cond.fieldLink RX4 105 "FrontDoorModel" "over" "[I") ∈ tb := tb_in 685 (by decide +kernel) (by decide +kernel)
theorem iw_686 : (Cond.fieldLink RX4 108 "FrontDoorModel" "fails" "[Z") ∈ tb := tb_in 686 (by decide +kernel) (by decide +kernel)
theorem iw_687 : (Cond.fieldLink RX4 111 "FrontDoorModel" "queue" "[I") ∈ tb := tb_in 687 (by decide +kernel) (by decide +kernel)
theorem iw_688 : (Cond.fieldLink RX4 212 "FrontDoorModel" "queued" "I") ∈ tb := tb_in 688 (by decide +kernel) (by decide +kernel)
theorem iw_776 : (Cond.arrayClass .boolean) ∈ tb := tb_in 776 (by decide +kernel) (by decide +kernel)
theorem iw_777 : (Cond.methodLink RL 17 yX4_server) ∈ tb := tb_in 777 (by decide +kernel) (by decide +kernel)
theorem iw_778 : (Cond.instanceMethod yX4_server) ∈ tb := tb_in 778 (by decide +kernel) (by decide +kernel)
theorem iw_779 : (Cond.selects RX4 yX4_server yX4_server) ∈ tb := tb_in 779 (by decide +kernel) (by decide +kernel)
theorem iw_780 : (Cond.code yX4_server cX4_server 7 (some .int)) ∈ tb := tb_in 780 (by decide +kernel) (by decide +kernel)
theorem iw_781 : (Cond.methodLink RX4 117 yX4_isIn) ∈ tb := tb_in 781 (by decide +kernel) (by decide +kernel)
theorem iw_782 : (Cond.static yX4_isIn) ∈ tb := tb_in 782 (by decide +kernel) (by decide +kernel)
theorem iw_783 : (Cond.code yX4_isIn cX4_isIn 2 (some .boolean)) ∈ tb := tb_in 783 (by decide +kernel) (by decide +kernel)
theorem iw_784 : (Cond.methodLink RX4 124 yX4_refuse) ∈ tb := tb_in 784 (by decide +kernel) (by decide +kernel)
theorem iw_786 : (Cond.instanceMethod yX4_refuse) ∈ tb := tb_in 786 (by decide +kernel) (by decide +kernel)
theorem iw_787 : (Cond.code yX4_refuse cX4_refuse 2 (some .int)) ∈ tb := tb_in 787 (by decide +kernel) (by decide +kernel)
theorem iw_788 : (Cond.methodLink RL 22 yX4_set) ∈ tb := tb_in 788 (by decide +kernel) (by decide +kernel)
theorem iw_789 : (Cond.instanceMethod yX4_set) ∈ tb := tb_in 789 (by decide +kernel) (by decide +kernel)
theorem iw_790 : (Cond.selects RX4 yX4_set yX4_set) ∈ tb := tb_in 790 (by decide +kernel) (by decide +kernel)
theorem iw_791 : (Cond.code yX4_set cX4_set 5 (some .int)) ∈ tb := tb_in 791 (by decide +kernel) (by decide +kernel)
theorem iw_792 : (Cond.methodLink RX4 128 yX4_isServer) ∈ tb := tb_in 792 (by decide +kernel) (by decide +kernel)
theorem iw_794 : (Cond.instanceMethod yX4_isServer) ∈ tb := tb_in 794 (by decide +kernel) (by decide +kernel)
theorem iw_795 : (Cond.code yX4_isServer cX4_isServer 2 (some .boolean)) ∈ tb := tb_in 795 (by decide +kernel) (by decide +kernel)
theorem iw_796 : (Cond.methodLink RX4 132 yX4_serverOf) ∈ tb := tb_in 796 (by decide +kernel) (by decide +kernel)
theorem iw_797 : (Cond.instanceMethod yX4_serverOf) ∈ tb := tb_in 797 (by decide +kernel) (by decide +kernel)
theorem iw_798 : (Cond.selects RX4 yX4_serverOf yX4_serverOf) ∈ tb := tb_in 798 (by decide +kernel) (by decide +kernel)
theorem iw_799 : (Cond.code yX4_serverOf cX4_serverOf 3 (some .int)) ∈ tb := tb_in 799 (by decide +kernel) (by decide +kernel)
theorem iw_800 : (Cond.constant RX4 234 (1000000000)) ∈ tb := tb_in 800 (by decide +kernel) (by decide +kernel)
theorem iw_801 : (Cond.methodLink RL 27 yX4_drain) ∈ tb := tb_in 801 (by decide +kernel) (by decide +kernel)
theorem iw_802 : (Cond.instanceMethod yX4_drain) ∈ tb := tb_in 802 (by decide +kernel) (by decide +kernel)
theorem iw_803 : (Cond.selects RX4 yX4_drain yX4_drain) ∈ tb := tb_in 803 (by decide +kernel) (by decide +kernel)
theorem iw_804 : (Cond.code yX4_drain cX4_drain 2 (some .int)) ∈ tb := tb_in 804 (by decide +kernel) (by decide +kernel)
theorem iw_805 : (Cond.methodLink RL 31 yX4_back) ∈ tb := tb_in 805 (by decide +kernel) (by decide +kernel)
theorem iw_806 : (Cond.instanceMethod yX4_back) ∈ tb := tb_in 806 (by decide +kernel) (by decide +kernel)
theorem iw_807 : (Cond.selects RX4 yX4_back yX4_back) ∈ tb := tb_in 807 (by decide +kernel) (by decide +kernel)
theorem iw_808 : (Cond.code yX4_back cX4_back 2 (some .int)) ∈ tb := tb_in 808 (by decide +kernel) (by decide +kernel)
theorem iw_809 : (Cond.methodLink RL 35 yX4_rule) ∈ tb := tb_in 809 (by decide +kernel) (by decide +kernel)
theorem iw_810 : (Cond.instanceMethod yX4_rule) ∈ tb := tb_in 810 (by decide +kernel) (by decide +kernel)
theorem iw_811 : (Cond.selects RX4 yX4_rule yX4_rule) ∈ tb := tb_in 811 (by decide +kernel) (by decide +kernel)
theorem iw_812 : (Cond.code yX4_rule cX4_rule 3 (some .int)) ∈ tb := tb_in 812 (by decide +kernel) (by decide +kernel)
theorem iw_813 : (Cond.methodLink RL 39 yX4_limit) ∈ tb := tb_in 813 (by decide +kernel) (by decide +kernel)
theorem iw_814 : (Cond.instanceMethod yX4_limit) ∈ tb := tb_in 814 (by decide +kernel) (by decide +kernel)
theorem iw_815 : (Cond.selects RX4 yX4_limit yX4_limit) ∈ tb := tb_in 815 (by decide +kernel) (by decide +kernel)
theorem iw_816 : (Cond.code yX4_limit cX4_limit 3 (some .int)) ∈ tb := tb_in 816 (by decide +kernel) (by decide +kernel)
theorem iw_817 : (Cond.methodLink RL 43 yX4_budget) ∈ tb := tb_in 817 (by decide +kernel) (by decide +kernel)
theorem iw_818 : (Cond.instanceMethod yX4_budget) ∈ tb := tb_in 818 (by decide +kernel) (by decide +kernel)
theorem iw_819 : (Cond.selects RX4 yX4_budget yX4_budget) ∈ tb := tb_in 819 (by decide +kernel) (by decide +kernel)
theorem iw_820 : (Cond.code yX4_budget cX4_budget 3 (some .int)) ∈ tb := tb_in 820 (by decide +kernel) (by decide +kernel)
theorem iw_821 : (Cond.methodLink RL 47 yX4_hedge) ∈ tb := tb_in 821 (by decide +kernel) (by decide +kernel)
theorem iw_822 : (Cond.instanceMethod yX4_hedge) ∈ tb := tb_in 822 (by decide +kernel) (by decide +kernel)
theorem iw_823 : (Cond.selects RX4 yX4_hedge yX4_hedge) ∈ tb := tb_in 823 (by decide +kernel) (by decide +kernel)
theorem iw_824 : (Cond.code yX4_hedge cX4_hedge 3 (some .int)) ∈ tb := tb_in 824 (by decide +kernel) (by decide +kernel)
theorem iw_825 : (Cond.methodLink RL 52 yX4_call) ∈ tb := tb_in 825 (by decide +kernel) (by decide +kernel)
theorem iw_826 : (Cond.instanceMethod yX4_call) ∈ tb := tb_in 826 (by decide +kernel) (by decide +kernel)
theorem iw_827 : (Cond.selects RX4 yX4_call yX4_call) ∈ tb := tb_in 827 (by decide +kernel) (by decide +kernel)
theorem iw_828 : (Cond.code yX4_call cX4_call 7 (some .int)) ∈ tb := tb_in 828 (by decide +kernel) (by decide +kernel)
theorem iw_829 : (Cond.constant RX4 143 (65536)) ∈ tb := tb_in 829 (by decide +kernel) (by decide +kernel)
theorem iw_830 : (Cond.methodLink RX4 178 yX4_asksFor) ∈ tb := tb_in 830 (by decide +kernel) (by decide +kernel)
theorem iw_832 : (Cond.instanceMethod yX4_asksFor) ∈ tb := tb_in 832 (by decide +kernel) (by decide +kernel)
theorem iw_833 : (Cond.code yX4_asksFor cX4_asksFor 3 (some .boolean)) ∈ tb := tb_in 833 (by decide +kernel) (by decide +kernel)
theorem iw_834 : (Cond.methodLink RX4 167 yX4_mays) ∈ tb := tb_in 834 (by decide +kernel) (by decide +kernel)
theorem iw_836 : (Cond.instanceMethod yX4_mays) ∈ tb := tb_in 836 (by decide +kernel) (by decide +kernel)
theorem iw_837 : (Cond.code yX4_mays cX4_mays 4 (some .int)) ∈ tb := tb_in 837 (by decide +kernel) (by decide +kernel)
theorem iw_838 : (Cond.methodLink RX4 170 yX4_picked) ∈ tb := tb_in 838 (by decide +kernel) (by decide +kernel)
theorem iw_840 : (Cond.instanceMethod yX4_picked) ∈ tb := tb_in 840 (by decide +kernel) (by decide +kernel)
theorem iw_841 : (Cond.code yX4_picked cX4_picked 4 (some .int)) ∈ tb := tb_in 841 (by decide +kernel) (by decide +kernel)
theorem iw_842 : (Cond.methodLink RX4 150 yX4_byTurns) ∈ tb := tb_in 842 (by decide +kernel) (by decide +kernel)
theorem iw_844 : (Cond.instanceMethod yX4_byTurns) ∈ tb := tb_in 844 (by decide +kernel) (by decide +kernel)
theorem iw_845 : (Cond.code yX4_byTurns cX4_byTurns 6 (some .int)) ∈ tb := tb_in 845 (by decide +kernel) (by decide +kernel)
theorem iw_846 : (Cond.methodLink RX4 147 yX4_fewest) ∈ tb := tb_in 846 (by decide +kernel) (by decide +kernel)
theorem iw_848 : (Cond.instanceMethod yX4_fewest) ∈ tb := tb_in 848 (by decide +kernel) (by decide +kernel)
theorem iw_849 : (Cond.code yX4_fewest cX4_fewest 4 (some .int)) ∈ tb := tb_in 849 (by decide +kernel) (by decide +kernel)
theorem iw_850 : (Cond.methodLink RX4 154 yX4_onRing) ∈ tb := tb_in 850 (by decide +kernel) (by decide +kernel)
theorem iw_852 : (Cond.instanceMethod yX4_onRing) ∈ tb := tb_in 852 (by decide +kernel) (by decide +kernel)
theorem iw_853 : (Cond.code yX4_onRing cX4_onRing 8 (some .int)) ∈ tb := tb_in 853 (by decide +kernel) (by decide +kernel)
theorem iw_854 : (Cond.methodLink RX4 144 yX4_markOf) ∈ tb := tb_in 854 (by decide +kernel) (by decide +kernel)
theorem iw_855 : (Cond.static yX4_markOf) ∈ tb := tb_in 855 (by decide +kernel) (by decide +kernel)
theorem iw_856 : (Cond.code yX4_markOf cX4_markOf 2 (some .int)) ∈ tb := tb_in 856 (by decide +kernel) (by decide +kernel)
theorem iw_857 : (Cond.constant RX4 142 (40503)) ∈ tb := tb_in 857 (by decide +kernel) (by decide +kernel)
theorem iw_858 : (Cond.methodLink RX4 157 yX4_near) ∈ tb := tb_in 858 (by decide +kernel) (by decide +kernel)
theorem iw_860 : (Cond.instanceMethod yX4_near) ∈ tb := tb_in 860 (by decide +kernel) (by decide +kernel)
theorem iw_861 : (Cond.code yX4_near cX4_near 5 (some .int)) ∈ tb := tb_in 861 (by decide +kernel) (by decide +kernel)
theorem iw_862 : (Cond.methodLink RX4 174 yX4_ask) ∈ tb := tb_in 862 (by decide +kernel) (by decide +kernel)
theorem iw_864 : (Cond.instanceMethod yX4_ask) ∈ tb := tb_in 864 (by decide +kernel) (by decide +kernel)
theorem iw_865 : (Cond.code yX4_ask cX4_ask 4 none) ∈ tb := tb_in 865 (by decide +kernel) (by decide +kernel)
theorem iw_866 : (Cond.constant RX4 166 (1000000)) ∈ tb := tb_in 866 (by decide +kernel) (by decide +kernel)
theorem iw_867 : (Cond.methodLink RL 56 yX4_off) ∈ tb := tb_in 867 (by decide +kernel) (by decide +kernel)
theorem iw_868 : (Cond.instanceMethod yX4_off) ∈ tb := tb_in 868 (by decide +kernel) (by decide +kernel)
theorem iw_869 : (Cond.selects RX4 yX4_off yX4_off) ∈ tb := tb_in 869 (by decide +kernel) (by decide +kernel)
theorem iw_870 : (Cond.code yX4_off cX4_off 2 (some .int)) ∈ tb := tb_in 870 (by decide +kernel) (by decide +kernel)
theorem iw_871 : (Cond.methodLink RX4 193 yX4_isCall) ∈ tb := tb_in 871 (by decide +kernel) (by decide +kernel)
theorem iw_873 : (Cond.instanceMethod yX4_isCall) ∈ tb := tb_in 873 (by decide +kernel) (by decide +kernel)
theorem iw_874 : (Cond.code yX4_isCall cX4_isCall 2 (some .boolean)) ∈ tb := tb_in 874 (by decide +kernel) (by decide +kernel)
theorem iw_875 : (Cond.methodLink RX4 196 yX4_ends) ∈ tb := tb_in 875 (by decide +kernel) (by decide +kernel)
theorem iw_877 : (Cond.instanceMethod yX4_ends) ∈ tb := tb_in 877 (by decide +kernel) (by decide +kernel)
theorem iw_878 : (Cond.code yX4_ends cX4_ends 3 none) ∈ tb := tb_in 878 (by decide +kernel) (by decide +kernel)
theorem iw_879 : (Cond.methodLink RX4 190 yX4_takes) ∈ tb := tb_in 879 (by decide +kernel) (by decide +kernel)
theorem iw_881 : (Cond.instanceMethod yX4_takes) ∈ tb := tb_in 881 (by decide +kernel) (by decide +kernel)
theorem iw_882 : (Cond.code yX4_takes cX4_takes 4 none) ∈ tb := tb_in 882 (by decide +kernel) (by decide +kernel)
theorem iw_883 : (Cond.methodLink RL 60 yX4_ticks) ∈ tb := tb_in 883 (by decide +kernel) (by decide +kernel)
theorem iw_884 : (Cond.instanceMethod yX4_ticks) ∈ tb := tb_in 884 (by decide +kernel) (by decide +kernel)
theorem iw_885 : (Cond.selects RX4 yX4_ticks yX4_ticks) ∈ tb := tb_in 885 (by decide +kernel) (by decide +kernel)
theorem iw_886 : (Cond.code yX4_ticks cX4_ticks 4 (some .int)) ∈ tb := tb_in 886 (by decide +kernel) (by decide +kernel)
theorem iw_887 : (Cond.methodLink RX4 230 yX4_goesOn) ∈ tb := tb_in 887 (by decide +kernel) (by decide +kernel)
theorem iw_889 : (Cond.instanceMethod yX4_goesOn) ∈ tb := tb_in 889 (by decide +kernel) (by decide +kernel)
theorem iw_890 : (Cond.code yX4_goesOn cX4_goesOn 4 (some .int)) ∈ tb := tb_in 890 (by decide +kernel) (by decide +kernel)
theorem iw_891 : (Cond.methodLink RX4 218 yX4_comesBack) ∈ tb := tb_in 891 (by decide +kernel) (by decide +kernel)
theorem iw_893 : (Cond.instanceMethod yX4_comesBack) ∈ tb := tb_in 893 (by decide +kernel) (by decide +kernel)
theorem iw_894 : (Cond.code yX4_comesBack cX4_comesBack 5 (some .boolean)) ∈ tb := tb_in 894 (by decide +kernel) (by decide +kernel)
theorem iw_895 : (Cond.methodLink RX4 199 yX4_answer) ∈ tb := tb_in 895 (by decide +kernel) (by decide +kernel)
theorem iw_897 : (Cond.instanceMethod yX4_answer) ∈ tb := tb_in 897 (by decide +kernel) (by decide +kernel)
theorem iw_898 : (Cond.code yX4_answer cX4_answer 2 none) ∈ tb := tb_in 898 (by decide +kernel) (by decide +kernel)
theorem iw_899 : (Cond.methodLink RX4 203 yX4_failure) ∈ tb := tb_in 899 (by decide +kernel) (by decide +kernel)
theorem iw_901 : (Cond.instanceMethod yX4_failure) ∈ tb := tb_in 901 (by decide +kernel) (by decide +kernel)
theorem iw_902 : (Cond.code yX4_failure cX4_failure 3 none) ∈ tb := tb_in 902 (by decide +kernel) (by decide +kernel)
theorem iw_903 : (Cond.methodLink RX4 181 yX4_outsNow) ∈ tb := tb_in 903 (by decide +kernel) (by decide +kernel)
theorem iw_905 : (Cond.instanceMethod yX4_outsNow) ∈ tb := tb_in 905 (by decide +kernel) (by decide +kernel)
theorem iw_906 : (Cond.code yX4_outsNow cX4_outsNow 4 (some .int)) ∈ tb := tb_in 906 (by decide +kernel) (by decide +kernel)
theorem iw_907 : (Cond.methodLink RX4 185 Lib.Math.min.name) ∈ tb := tb_in 907 (by decide +kernel) (by decide +kernel)
theorem iw_908 : (Cond.methodLink RX4 221 yX4_isDue) ∈ tb := tb_in 908 (by decide +kernel) (by decide +kernel)
theorem iw_910 : (Cond.instanceMethod yX4_isDue) ∈ tb := tb_in 910 (by decide +kernel) (by decide +kernel)
theorem iw_911 : (Cond.code yX4_isDue cX4_isDue 4 (some .boolean)) ∈ tb := tb_in 911 (by decide +kernel) (by decide +kernel)
theorem iw_912 : (Cond.methodLink RX4 224 yX4_hedges) ∈ tb := tb_in 912 (by decide +kernel) (by decide +kernel)
theorem iw_914 : (Cond.instanceMethod yX4_hedges) ∈ tb := tb_in 914 (by decide +kernel) (by decide +kernel)
theorem iw_915 : (Cond.code yX4_hedges cX4_hedges 3 none) ∈ tb := tb_in 915 (by decide +kernel) (by decide +kernel)
theorem iw_916 : (Cond.methodLink RX4 227 yX4_line) ∈ tb := tb_in 916 (by decide +kernel) (by decide +kernel)
theorem iw_918 : (Cond.instanceMethod yX4_line) ∈ tb := tb_in 918 (by decide +kernel) (by decide +kernel)
theorem iw_919 : (Cond.code yX4_line cX4_line 3 none) ∈ tb := tb_in 919 (by decide +kernel) (by decide +kernel)
theorem iw_920 : (Cond.methodLink RX4 215 yX4_isAhead) ∈ tb := tb_in 920 (by decide +kernel) (by decide +kernel)
theorem iw_922 : (Cond.instanceMethod yX4_isAhead) ∈ tb := tb_in 922 (by decide +kernel) (by decide +kernel)
theorem iw_923 : (Cond.code yX4_isAhead cX4_isAhead 3 (some .boolean)) ∈ tb := tb_in 923 (by decide +kernel) (by decide +kernel)
theorem iw_924 : (Cond.methodLink RL 64 yX4_pick) ∈ tb := tb_in 924 (by decide +kernel) (by decide +kernel)
theorem iw_925 : (Cond.instanceMethod yX4_pick) ∈ tb := tb_in 925 (by decide +kernel) (by decide +kernel)
theorem iw_926 : (Cond.selects RX4 yX4_pick yX4_pick) ∈ tb := tb_in 926 (by decide +kernel) (by decide +kernel)
theorem iw_927 : (Cond.code yX4_pick cX4_pick 3 (some .int)) ∈ tb := tb_in 927 (by decide +kernel) (by decide +kernel)
theorem iw_928 : (Cond.methodLink RL 69 yX4_callOf) ∈ tb := tb_in 928 (by decide +kernel) (by decide +kernel)
theorem iw_929 : (Cond.instanceMethod yX4_callOf) ∈ tb := tb_in 929 (by decide +kernel) (by decide +kernel)
theorem iw_930 : (Cond.selects RX4 yX4_callOf yX4_callOf) ∈ tb := tb_in 930 (by decide +kernel) (by decide +kernel)
theorem iw_931 : (Cond.code yX4_callOf cX4_callOf 3 (some .int)) ∈ tb := tb_in 931 (by decide +kernel) (by decide +kernel)
theorem iw_932 : (Cond.methodLink RL 73 yX4_serverOf) ∈ tb := tb_in 932 (by decide +kernel) (by decide +kernel)
theorem iw_933 : (Cond.methodLink RL 77 yX4_mark) ∈ tb := tb_in 933 (by decide +kernel) (by decide +kernel)
theorem iw_934 : (Cond.instanceMethod yX4_mark) ∈ tb := tb_in 934 (by decide +kernel) (by decide +kernel)
theorem iw_935 : (Cond.selects RX4 yX4_mark yX4_mark) ∈ tb := tb_in 935 (by decide +kernel) (by decide +kernel)
theorem iw_936 : (Cond.code yX4_mark cX4_mark 3 (some .int)) ∈ tb := tb_in 936 (by decide +kernel) (by decide +kernel)
theorem iw_937 : (Cond.methodLink RL 81 yX4_queue) ∈ tb := tb_in 937 (by decide +kernel) (by decide +kernel)
theorem iw_938 : (Cond.instanceMethod yX4_queue) ∈ tb := tb_in 938 (by decide +kernel) (by decide +kernel)
theorem iw_939 : (Cond.selects RX4 yX4_queue yX4_queue) ∈ tb := tb_in 939 (by decide +kernel) (by decide +kernel)
theorem iw_940 : (Cond.code yX4_queue cX4_queue 2 (some .int)) ∈ tb := tb_in 940 (by decide +kernel) (by decide +kernel)
theorem iw_941 : (Cond.methodLink RL 85 yX4_share) ∈ tb := tb_in 941 (by decide +kernel) (by decide +kernel)
theorem iw_942 : (Cond.instanceMethod yX4_share) ∈ tb := tb_in 942 (by decide +kernel) (by decide +kernel)
theorem iw_943 : (Cond.selects RX4 yX4_share yX4_share) ∈ tb := tb_in 943 (by decide +kernel) (by decide +kernel)
theorem iw_944 : (Cond.code yX4_share cX4_share 2 (some .int)) ∈ tb := tb_in 944 (by decide +kernel) (by decide +kernel)
theorem iw_945 : (Cond.methodLink RL 89 yX4_count) ∈ tb := tb_in 945 (by decide +kernel) (by decide +kernel)
theorem iw_946 : (Cond.instanceMethod yX4_count) ∈ tb := tb_in 946 (by decide +kernel) (by decide +kernel)
theorem iw_947 : (Cond.selects RX4 yX4_count yX4_count) ∈ tb := tb_in 947 (by decide +kernel) (by decide +kernel)
theorem iw_948 : (Cond.code yX4_count cX4_count 4 (some .int)) ∈ tb := tb_in 948 (by decide +kernel) (by decide +kernel)
theorem iw_949 : (Cond.methodLink RX4 235 yX4_inState) ∈ tb := tb_in 949 (by decide +kernel) (by decide +kernel)
theorem iw_951 : (Cond.instanceMethod yX4_inState) ∈ tb := tb_in 951 (by decide +kernel) (by decide +kernel)
theorem iw_952 : (Cond.code yX4_inState cX4_inState 4 (some .int)) ∈ tb := tb_in 952 (by decide +kernel) (by decide +kernel)
theorem iw_960 : (Cond.selects "[Ljava/lang/Object;" ⟨"java/lang/Object", "getClass", "()Ljava/lang/Class;"⟩ ⟨"java/lang/Object", "getClass", "()Ljava/lang/Class;"⟩) ∈ tb := tb_in 960 (by decide +kernel) (by decide +kernel)
end
section
theorem dJ9_max_7cf53_0 : decode cJ9_max_7cf53 0 = .ok (.iload_n 0, 1) := by decide +kernel
theorem dJ9_max_7cf53_1 : decode cJ9_max_7cf53 1 = .ok (.iload_n 1, 1) := by decide +kernel
theorem dJ9_max_7cf53_2 : decode cJ9_max_7cf53 2 = .ok (.if_icmp .lt 7, 3) := by decide +kernel
theorem dJ9_max_7cf53_5 : decode cJ9_max_7cf53 5 = .ok (.iload_n 0, 1) := by decide +kernel
theorem dJ9_max_7cf53_6 : decode cJ9_max_7cf53 6 = .ok (.goto 4, 3) := by decide +kernel
theorem dJ9_max_7cf53_9 : decode cJ9_max_7cf53 9 = .ok (.iload_n 1, 1) := by decide +kernel
theorem dJ9_max_7cf53_10 : decode cJ9_max_7cf53 10 = .ok (.ireturn, 1) := by decide +kernel
theorem dJ9_min_7cf53_0 : decode cJ9_min_7cf53 0 = .ok (.iload_n 0, 1) := by decide +kernel
theorem dJ9_min_7cf53_1 : decode cJ9_min_7cf53 1 = .ok (.iload_n 1, 1) := by decide +kernel
theorem dJ9_min_7cf53_2 : decode cJ9_min_7cf53 2 = .ok (.if_icmp .gt 7, 3) := by decide +kernel
theorem dJ9_min_7cf53_5 : decode cJ9_min_7cf53 5 = .ok (.iload_n 0, 1) := by decide +kernel
theorem dJ9_min_7cf53_6 : decode cJ9_min_7cf53 6 = .ok (.goto 4, 3) := by decide +kernel
theorem dJ9_min_7cf53_9 : decode cJ9_min_7cf53 9 = .ok (.iload_n 1, 1) := by decide +kernel
theorem dJ9_min_7cf53_10 : decode cJ9_min_7cf53 10 = .ok (.ireturn, 1) := by decide +kernel
theorem dJxa1e45_init_da8c8_0 : decode cJxa1e45_init_da8c8 0 = .ok (.aload_n 0, 1) := by decide +kernel
theorem dJxa1e45_init_da8c8_1 : decode cJxa1e45_init_da8c8 1 = .ok (.invokespecial 1, 3) := by decide +kernel
theorem dJxa1e45_init_da8c8_4 : decode cJxa1e45_init_da8c8 4 = .ok (.return_, 1) := by decide +kernel
theorem dJxc12de_init_da8c8_0 : decode cJxc12de_init_da8c8 0 = .ok (.aload_n 0, 1) := by decide +kernel
theorem dJxc12de_init_da8c8_1 : decode cJxc12de_init_da8c8 1 = .ok (.invokespecial 1, 3) := by decide +kernel
theorem dJxc12de_init_da8c8_4 : decode cJxc12de_init_da8c8 4 = .ok (.aload_n 0, 1) := by decide +kernel
theorem dJxc12de_init_da8c8_5 : decode cJxc12de_init_da8c8 5 = .ok (.iconst 0, 1) := by decide +kernel
theorem dJxc12de_init_da8c8_6 : decode cJxc12de_init_da8c8 6 = .ok (.putfield 7, 3) := by decide +kernel
theorem dJxc12de_init_da8c8_9 : decode cJxc12de_init_da8c8 9 = .ok (.return_, 1) := by decide +kernel
theorem dJx4a65c_init_da8c8_0 : decode cJx4a65c_init_da8c8 0 = .ok (.aload_n 0, 1) := by decide +kernel
theorem dJx4a65c_init_da8c8_1 : decode cJx4a65c_init_da8c8 1 = .ok (.invokespecial 1, 3) := by decide +kernel
theorem dJx4a65c_init_da8c8_4 : decode cJx4a65c_init_da8c8 4 = .ok (.aload_n 0, 1) := by decide +kernel
theorem dJx4a65c_init_da8c8_5 : decode cJx4a65c_init_da8c8 5 = .ok (.getstatic 39, 3) := by decide +kernel
theorem dJx4a65c_init_da8c8_8 : decode cJx4a65c_init_da8c8 8 = .ok (.putfield 9, 3) := by decide +kernel
theorem dJx4a65c_init_da8c8_11 : decode cJx4a65c_init_da8c8 11 = .ok (.return_, 1) := by decide +kernel
theorem dJx4a65c_grow_92f84_0 : decode cJx4a65c_grow_92f84 0 = .ok (.aload_n 0, 1) := by decide +kernel
theorem dJx4a65c_grow_92f84_1 : decode cJx4a65c_grow_92f84 1 = .ok (.getfield 9, 3) := by decide +kernel
theorem dJx4a65c_grow_92f84_4 : decode cJx4a65c_grow_92f84 4 = .ok (.arraylength, 1) := by decide +kernel
theorem dJx4a65c_grow_92f84_5 : decode cJx4a65c_grow_92f84 5 = .ok (.istore_n 2, 1) := by decide +kernel
theorem dJx4a65c_grow_92f84_6 : decode cJx4a65c_grow_92f84 6 = .ok (.iload_n 2, 1) := by decide +kernel
theorem dJx4a65c_grow_92f84_7 : decode cJx4a65c_grow_92f84 7 = .ok (.ifCond .gt 13, 3) := by decide +kernel
theorem dJx4a65c_grow_92f84_10 : decode cJx4a65c_grow_92f84 10 = .ok (.aload_n 0, 1) := by decide +kernel
theorem dJx4a65c_grow_92f84_11 : decode cJx4a65c_grow_92f84 11 = .ok (.getfield 9, 3) := by decide +kernel
theorem dJx4a65c_grow_92f84_14 : decode cJx4a65c_grow_92f84 14 = .ok (.getstatic 39, 3) := by decide +kernel
theorem dJx4a65c_grow_92f84_17 : decode cJx4a65c_grow_92f84 17 = .ok (.if_acmp .eq 28, 3) := by decide +kernel
theorem dJx4a65c_grow_92f84_20 : decode cJx4a65c_grow_92f84 20 = .ok (.iload_n 2, 1) := by decide +kernel
theorem dJx4a65c_grow_92f84_21 : decode cJx4a65c_grow_92f84 21 = .ok (.iload_n 1, 1) := by decide +kernel
theorem dJx4a65c_grow_92f84_22 : decode cJx4a65c_grow_92f84 22 = .ok (.iload_n 2, 1) := by decide +kernel
theorem dJx4a65c_grow_92f84_23 : decode cJx4a65c_grow_92f84 23 = .ok (.isub, 1) := by decide +kernel
theorem dJx4a65c_grow_92f84_24 : decode cJx4a65c_grow_92f84 24 = .ok (.iload_n 2, 1) := by decide +kernel
theorem dJx4a65c_grow_92f84_25 : decode cJx4a65c_grow_92f84 25 = .ok (.iconst 1, 1) := by decide +kernel
theorem dJx4a65c_grow_92f84_26 : decode cJx4a65c_grow_92f84 26 = .ok (.ishr, 1) := by decide +kernel
theorem dJx4a65c_grow_92f84_27 : decode cJx4a65c_grow_92f84 27 = .ok (.invokestatic 73, 3) := by decide +kernel
theorem dJx4a65c_grow_92f84_30 : decode cJx4a65c_grow_92f84 30 = .ok (.istore_n 3, 1) := by decide +kernel
theorem dJx4a65c_grow_92f84_31 : decode cJx4a65c_grow_92f84 31 = .ok (.aload_n 0, 1) := by decide +kernel
theorem dJx4a65c_grow_92f84_32 : decode cJx4a65c_grow_92f84 32 = .ok (.aload_n 0, 1) := by decide +kernel
theorem dJx4a65c_grow_92f84_33 : decode cJx4a65c_grow_92f84 33 = .ok (.getfield 9, 3) := by decide +kernel
theorem dJx4a65c_grow_92f84_36 : decode cJx4a65c_grow_92f84 36 = .ok (.iload_n 3, 1) := by decide +kernel
theorem dJx4a65c_grow_92f84_37 : decode cJx4a65c_grow_92f84 37 = .ok (.invokestatic 66, 3) := by decide +kernel
theorem dJx4a65c_grow_92f84_40 : decode cJx4a65c_grow_92f84 40 = .ok (.dup_x1, 1) := by decide +kernel
theorem dJx4a65c_grow_92f84_41 : decode cJx4a65c_grow_92f84 41 = .ok (.putfield 9, 3) := by decide +kernel
theorem dJx4a65c_grow_92f84_44 : decode cJx4a65c_grow_92f84 44 = .ok (.areturn, 1) := by decide +kernel
theorem dJx4a65c_grow_92f84_45 : decode cJx4a65c_grow_92f84 45 = .ok (.aload_n 0, 1) := by decide +kernel
theorem dJx4a65c_grow_92f84_46 : decode cJx4a65c_grow_92f84 46 = .ok (.bipush 10, 2) := by decide +kernel
theorem dJx4a65c_grow_92f84_48 : decode cJx4a65c_grow_92f84 48 = .ok (.iload_n 1, 1) := by decide +kernel
theorem dJx4a65c_grow_92f84_49 : decode cJx4a65c_grow_92f84 49 = .ok (.invokestatic 79, 3) := by decide +kernel
theorem dJx4a65c_grow_92f84_52 : decode cJx4a65c_grow_92f84 52 = .ok (.anewarray 7, 3) := by decide +kernel
theorem dJx4a65c_grow_92f84_55 : decode cJx4a65c_grow_92f84 55 = .ok (.dup_x1, 1) := by decide +kernel
theorem dJx4a65c_grow_92f84_56 : decode cJx4a65c_grow_92f84 56 = .ok (.putfield 9, 3) := by decide +kernel
theorem dJx4a65c_grow_92f84_59 : decode cJx4a65c_grow_92f84 59 = .ok (.areturn, 1) := by decide +kernel
theorem dJx4a65c_grow_d5877_0 : decode cJx4a65c_grow_d5877 0 = .ok (.aload_n 0, 1) := by decide +kernel
theorem dJx4a65c_grow_d5877_1 : decode cJx4a65c_grow_d5877 1 = .ok (.aload_n 0, 1) := by decide +kernel
theorem dJx4a65c_grow_d5877_2 : decode cJx4a65c_grow_d5877 2 = .ok (.getfield 48, 3) := by decide +kernel
theorem dJx4a65c_grow_d5877_5 : decode cJx4a65c_grow_d5877 5 = .ok (.iconst 1, 1) := by decide +kernel
theorem dJx4a65c_grow_d5877_6 : decode cJx4a65c_grow_d5877 6 = .ok (.iadd, 1) := by decide +kernel
theorem dJx4a65c_grow_d5877_7 : decode cJx4a65c_grow_d5877 7 = .ok (.invokevirtual 69, 3) := by decide +kernel
theorem dJx4a65c_grow_d5877_10 : decode cJx4a65c_grow_d5877 10 = .ok (.areturn, 1) := by decide +kernel
theorem dJx4a65c_size_8abf5_0 : decode cJx4a65c_size_8abf5 0 = .ok (.aload_n 0, 1) := by decide +kernel
theorem dJx4a65c_size_8abf5_1 : decode cJx4a65c_size_8abf5 1 = .ok (.getfield 48, 3) := by decide +kernel
theorem dJx4a65c_size_8abf5_4 : decode cJx4a65c_size_8abf5 4 = .ok (.ireturn, 1) := by decide +kernel
theorem dJx4a65c_elementData_915e3_0 : decode cJx4a65c_elementData_915e3 0 = .ok (.aload_n 0, 1) := by decide +kernel
theorem dJx4a65c_elementData_915e3_1 : decode cJx4a65c_elementData_915e3 1 = .ok (.getfield 9, 3) := by decide +kernel
theorem dJx4a65c_elementData_915e3_4 : decode cJx4a65c_elementData_915e3 4 = .ok (.iload_n 1, 1) := by decide +kernel
theorem dJx4a65c_elementData_915e3_5 : decode cJx4a65c_elementData_915e3 5 = .ok (.aaload, 1) := by decide +kernel
theorem dJx4a65c_elementData_915e3_6 : decode cJx4a65c_elementData_915e3 6 = .ok (.areturn, 1) := by decide +kernel
theorem dJx4a65c_get_915e3_0 : decode cJx4a65c_get_915e3 0 = .ok (.iload_n 1, 1) := by decide +kernel
theorem dJx4a65c_get_915e3_1 : decode cJx4a65c_get_915e3 1 = .ok (.aload_n 0, 1) := by decide +kernel
theorem dJx4a65c_get_915e3_2 : decode cJx4a65c_get_915e3 2 = .ok (.getfield 48, 3) := by decide +kernel
theorem dJx4a65c_get_915e3_5 : decode cJx4a65c_get_915e3 5 = .ok (.invokestatic 118, 3) := by decide +kernel
theorem dJx4a65c_get_915e3_8 : decode cJx4a65c_get_915e3 8 = .ok (.pop, 1) := by decide +kernel
theorem dJx4a65c_get_915e3_9 : decode cJx4a65c_get_915e3 9 = .ok (.aload_n 0, 1) := by decide +kernel
theorem dJx4a65c_get_915e3_10 : decode cJx4a65c_get_915e3 10 = .ok (.iload_n 1, 1) := by decide +kernel
theorem dJx4a65c_get_915e3_11 : decode cJx4a65c_get_915e3 11 = .ok (.invokevirtual 123, 3) := by decide +kernel
theorem dJx4a65c_get_915e3_14 : decode cJx4a65c_get_915e3 14 = .ok (.areturn, 1) := by decide +kernel
theorem dJx4a65c_add_72be8_0 : decode cJx4a65c_add_72be8 0 = .ok (.iload_n 3, 1) := by decide +kernel
theorem dJx4a65c_add_72be8_1 : decode cJx4a65c_add_72be8 1 = .ok (.aload_n 2, 1) := by decide +kernel
theorem dJx4a65c_add_72be8_2 : decode cJx4a65c_add_72be8 2 = .ok (.arraylength, 1) := by decide +kernel
theorem dJx4a65c_add_72be8_3 : decode cJx4a65c_add_72be8 3 = .ok (.if_icmp .ne 8, 3) := by decide +kernel
theorem dJx4a65c_add_72be8_6 : decode cJx4a65c_add_72be8 6 = .ok (.aload_n 0, 1) := by decide +kernel
theorem dJx4a65c_add_72be8_7 : decode cJx4a65c_add_72be8 7 = .ok (.invokevirtual 129, 3) := by decide +kernel
theorem dJx4a65c_add_72be8_10 : decode cJx4a65c_add_72be8 10 = .ok (.astore_n 2, 1) := by decide +kernel
theorem dJx4a65c_add_72be8_11 : decode cJx4a65c_add_72be8 11 = .ok (.aload_n 2, 1) := by decide +kernel
theorem dJx4a65c_add_72be8_12 : decode cJx4a65c_add_72be8 12 = .ok (.iload_n 3, 1) := by decide +kernel
theorem dJx4a65c_add_72be8_13 : decode cJx4a65c_add_72be8 13 = .ok (.aload_n 1, 1) := by decide +kernel
theorem dJx4a65c_add_72be8_14 : decode cJx4a65c_add_72be8 14 = .ok (.aastore, 1) := by decide +kernel
theorem dJx4a65c_add_72be8_15 : decode cJx4a65c_add_72be8 15 = .ok (.aload_n 0, 1) := by decide +kernel
theorem dJx4a65c_add_72be8_16 : decode cJx4a65c_add_72be8 16 = .ok (.iload_n 3, 1) := by decide +kernel
theorem dJx4a65c_add_72be8_17 : decode cJx4a65c_add_72be8 17 = .ok (.iconst 1, 1) := by decide +kernel
theorem dJx4a65c_add_72be8_18 : decode cJx4a65c_add_72be8 18 = .ok (.iadd, 1) := by decide +kernel
theorem dJx4a65c_add_72be8_19 : decode cJx4a65c_add_72be8 19 = .ok (.putfield 48, 3) := by decide +kernel
theorem dJx4a65c_add_72be8_22 : decode cJx4a65c_add_72be8 22 = .ok (.return_, 1) := by decide +kernel
theorem dJx4a65c_add_9ea2d_0 : decode cJx4a65c_add_9ea2d 0 = .ok (.aload_n 0, 1) := by decide +kernel
theorem dJx4a65c_add_9ea2d_1 : decode cJx4a65c_add_9ea2d 1 = .ok (.dup, 1) := by decide +kernel
theorem dJx4a65c_add_9ea2d_2 : decode cJx4a65c_add_9ea2d 2 = .ok (.getfield 63, 3) := by decide +kernel
theorem dJx4a65c_add_9ea2d_5 : decode cJx4a65c_add_9ea2d 5 = .ok (.iconst 1, 1) := by decide +kernel
theorem dJx4a65c_add_9ea2d_6 : decode cJx4a65c_add_9ea2d 6 = .ok (.iadd, 1) := by decide +kernel
theorem dJx4a65c_add_9ea2d_7 : decode cJx4a65c_add_9ea2d 7 = .ok (.putfield 63, 3) := by decide +kernel
theorem dJx4a65c_add_9ea2d_10 : decode cJx4a65c_add_9ea2d 10 = .ok (.aload_n 0, 1) := by decide +kernel
theorem dJx4a65c_add_9ea2d_11 : decode cJx4a65c_add_9ea2d 11 = .ok (.aload_n 1, 1) := by decide +kernel
theorem dJx4a65c_add_9ea2d_12 : decode cJx4a65c_add_9ea2d 12 = .ok (.aload_n 0, 1) := by decide +kernel
theorem dJx4a65c_add_9ea2d_13 : decode cJx4a65c_add_9ea2d 13 = .ok (.getfield 9, 3) := by decide +kernel
theorem dJx4a65c_add_9ea2d_16 : decode cJx4a65c_add_9ea2d 16 = .ok (.aload_n 0, 1) := by decide +kernel
theorem dJx4a65c_add_9ea2d_17 : decode cJx4a65c_add_9ea2d 17 = .ok (.getfield 48, 3) := by decide +kernel
theorem dJx4a65c_add_9ea2d_20 : decode cJx4a65c_add_9ea2d 20 = .ok (.invokevirtual 131, 3) := by decide +kernel
theorem dJx4a65c_add_9ea2d_23 : decode cJx4a65c_add_9ea2d 23 = .ok (.iconst 1, 1) := by decide +kernel
theorem dJx4a65c_add_9ea2d_24 : decode cJx4a65c_add_9ea2d 24 = .ok (.ireturn, 1) := by decide +kernel
theorem dJx4a65c_add_7a177_0 : decode cJx4a65c_add_7a177 0 = .ok (.aload_n 0, 1) := by decide +kernel
theorem dJx4a65c_add_7a177_1 : decode cJx4a65c_add_7a177 1 = .ok (.iload_n 1, 1) := by decide +kernel
theorem dJx4a65c_add_7a177_2 : decode cJx4a65c_add_7a177 2 = .ok (.invokevirtual 135, 3) := by decide +kernel
theorem dJx4a65c_add_7a177_5 : decode cJx4a65c_add_7a177 5 = .ok (.aload_n 0, 1) := by decide +kernel
theorem dJx4a65c_add_7a177_6 : decode cJx4a65c_add_7a177 6 = .ok (.dup, 1) := by decide +kernel
theorem dJx4a65c_add_7a177_7 : decode cJx4a65c_add_7a177 7 = .ok (.getfield 63, 3) := by decide +kernel
theorem dJx4a65c_add_7a177_10 : decode cJx4a65c_add_7a177 10 = .ok (.iconst 1, 1) := by decide +kernel
theorem dJx4a65c_add_7a177_11 : decode cJx4a65c_add_7a177 11 = .ok (.iadd, 1) := by decide +kernel
theorem dJx4a65c_add_7a177_12 : decode cJx4a65c_add_7a177 12 = .ok (.putfield 63, 3) := by decide +kernel
theorem dJx4a65c_add_7a177_15 : decode cJx4a65c_add_7a177 15 = .ok (.aload_n 0, 1) := by decide +kernel
theorem dJx4a65c_add_7a177_16 : decode cJx4a65c_add_7a177 16 = .ok (.getfield 48, 3) := by decide +kernel
theorem dJx4a65c_add_7a177_19 : decode cJx4a65c_add_7a177 19 = .ok (.dup, 1) := by decide +kernel
theorem dJx4a65c_add_7a177_20 : decode cJx4a65c_add_7a177 20 = .ok (.istore_n 3, 1) := by decide +kernel
theorem dJx4a65c_add_7a177_21 : decode cJx4a65c_add_7a177 21 = .ok (.aload_n 0, 1) := by decide +kernel
theorem dJx4a65c_add_7a177_22 : decode cJx4a65c_add_7a177 22 = .ok (.getfield 9, 3) := by decide +kernel
theorem dJx4a65c_add_7a177_25 : decode cJx4a65c_add_7a177 25 = .ok (.dup, 1) := by decide +kernel
theorem dJx4a65c_add_7a177_26 : decode cJx4a65c_add_7a177 26 = .ok (.astore 4, 2) := by decide +kernel
theorem dJx4a65c_add_7a177_28 : decode cJx4a65c_add_7a177 28 = .ok (.arraylength, 1) := by decide +kernel
theorem dJx4a65c_add_7a177_29 : decode cJx4a65c_add_7a177 29 = .ok (.if_icmp .ne 9, 3) := by decide +kernel
theorem dJx4a65c_add_7a177_32 : decode cJx4a65c_add_7a177 32 = .ok (.aload_n 0, 1) := by decide +kernel
theorem dJx4a65c_add_7a177_33 : decode cJx4a65c_add_7a177 33 = .ok (.invokevirtual 129, 3) := by decide +kernel
theorem dJx4a65c_add_7a177_36 : decode cJx4a65c_add_7a177 36 = .ok (.astore 4, 2) := by decide +kernel
theorem dJx4a65c_add_7a177_38 : decode cJx4a65c_add_7a177 38 = .ok (.aload 4, 2) := by decide +kernel
theorem dJx4a65c_add_7a177_40 : decode cJx4a65c_add_7a177 40 = .ok (.iload_n 1, 1) := by decide +kernel
theorem dJx4a65c_add_7a177_41 : decode cJx4a65c_add_7a177 41 = .ok (.aload 4, 2) := by decide +kernel
theorem dJx4a65c_add_7a177_43 : decode cJx4a65c_add_7a177 43 = .ok (.iload_n 1, 1) := by decide +kernel
theorem dJx4a65c_add_7a177_44 : decode cJx4a65c_add_7a177 44 = .ok (.iconst 1, 1) := by decide +kernel
theorem dJx4a65c_add_7a177_45 : decode cJx4a65c_add_7a177 45 = .ok (.iadd, 1) := by decide +kernel
theorem dJx4a65c_add_7a177_46 : decode cJx4a65c_add_7a177 46 = .ok (.iload_n 3, 1) := by decide +kernel
theorem dJx4a65c_add_7a177_47 : decode cJx4a65c_add_7a177 47 = .ok (.iload_n 1, 1) := by decide +kernel
theorem dJx4a65c_add_7a177_48 : decode cJx4a65c_add_7a177 48 = .ok (.isub, 1) := by decide +kernel
theorem dJx4a65c_add_7a177_49 : decode cJx4a65c_add_7a177 49 = .ok (.invokestatic 112, 3) := by decide +kernel
theorem dJx4a65c_add_7a177_52 : decode cJx4a65c_add_7a177 52 = .ok (.aload 4, 2) := by decide +kernel
theorem dJx4a65c_add_7a177_54 : decode cJx4a65c_add_7a177 54 = .ok (.iload_n 1, 1) := by decide +kernel
theorem dJx4a65c_add_7a177_55 : decode cJx4a65c_add_7a177 55 = .ok (.aload_n 2, 1) := by decide +kernel
theorem dJx4a65c_add_7a177_56 : decode cJx4a65c_add_7a177 56 = .ok (.aastore, 1) := by decide +kernel
theorem dJx4a65c_add_7a177_57 : decode cJx4a65c_add_7a177 57 = .ok (.aload_n 0, 1) := by decide +kernel
theorem dJx4a65c_add_7a177_58 : decode cJx4a65c_add_7a177 58 = .ok (.iload_n 3, 1) := by decide +kernel
theorem dJx4a65c_add_7a177_59 : decode cJx4a65c_add_7a177 59 = .ok (.iconst 1, 1) := by decide +kernel
theorem dJx4a65c_add_7a177_60 : decode cJx4a65c_add_7a177 60 = .ok (.iadd, 1) := by decide +kernel
theorem dJx4a65c_add_7a177_61 : decode cJx4a65c_add_7a177 61 = .ok (.putfield 48, 3) := by decide +kernel
theorem dJx4a65c_add_7a177_64 : decode cJx4a65c_add_7a177 64 = .ok (.return_, 1) := by decide +kernel
theorem dJx4a65c_remove_915e3_0 : decode cJx4a65c_remove_915e3 0 = .ok (.iload_n 1, 1) := by decide +kernel
theorem dJx4a65c_remove_915e3_1 : decode cJx4a65c_remove_915e3 1 = .ok (.aload_n 0, 1) := by decide +kernel
theorem dJx4a65c_remove_915e3_2 : decode cJx4a65c_remove_915e3 2 = .ok (.getfield 48, 3) := by decide +kernel
theorem dJx4a65c_remove_915e3_5 : decode cJx4a65c_remove_915e3 5 = .ok (.invokestatic 118, 3) := by decide +kernel
theorem dJx4a65c_remove_915e3_8 : decode cJx4a65c_remove_915e3 8 = .ok (.pop, 1) := by decide +kernel
theorem dJx4a65c_remove_915e3_9 : decode cJx4a65c_remove_915e3 9 = .ok (.aload_n 0, 1) := by decide +kernel
theorem dJx4a65c_remove_915e3_10 : decode cJx4a65c_remove_915e3 10 = .ok (.getfield 9, 3) := by decide +kernel
theorem dJx4a65c_remove_915e3_13 : decode cJx4a65c_remove_915e3 13 = .ok (.astore_n 2, 1) := by decide +kernel
theorem dJx4a65c_remove_915e3_14 : decode cJx4a65c_remove_915e3 14 = .ok (.aload_n 2, 1) := by decide +kernel
theorem dJx4a65c_remove_915e3_15 : decode cJx4a65c_remove_915e3 15 = .ok (.iload_n 1, 1) := by decide +kernel
theorem dJx4a65c_remove_915e3_16 : decode cJx4a65c_remove_915e3 16 = .ok (.aaload, 1) := by decide +kernel
theorem dJx4a65c_remove_915e3_17 : decode cJx4a65c_remove_915e3 17 = .ok (.astore_n 3, 1) := by decide +kernel
theorem dJx4a65c_remove_915e3_18 : decode cJx4a65c_remove_915e3 18 = .ok (.aload_n 0, 1) := by decide +kernel
theorem dJx4a65c_remove_915e3_19 : decode cJx4a65c_remove_915e3 19 = .ok (.aload_n 2, 1) := by decide +kernel
theorem dJx4a65c_remove_915e3_20 : decode cJx4a65c_remove_915e3 20 = .ok (.iload_n 1, 1) := by decide +kernel
theorem dJx4a65c_remove_915e3_21 : decode cJx4a65c_remove_915e3 21 = .ok (.invokevirtual 144, 3) := by decide +kernel
theorem dJx4a65c_remove_915e3_24 : decode cJx4a65c_remove_915e3 24 = .ok (.aload_n 3, 1) := by decide +kernel
theorem dJx4a65c_remove_915e3_25 : decode cJx4a65c_remove_915e3 25 = .ok (.areturn, 1) := by decide +kernel
theorem dJx4a65c_fastRemove_b59b0_0 : decode cJx4a65c_fastRemove_b59b0 0 = .ok (.aload_n 0, 1) := by decide +kernel
theorem dJx4a65c_fastRemove_b59b0_1 : decode cJx4a65c_fastRemove_b59b0 1 = .ok (.dup, 1) := by decide +kernel
theorem dJx4a65c_fastRemove_b59b0_2 : decode cJx4a65c_fastRemove_b59b0 2 = .ok (.getfield 63, 3) := by decide +kernel
theorem dJx4a65c_fastRemove_b59b0_5 : decode cJx4a65c_fastRemove_b59b0 5 = .ok (.iconst 1, 1) := by decide +kernel
theorem dJx4a65c_fastRemove_b59b0_6 : decode cJx4a65c_fastRemove_b59b0 6 = .ok (.iadd, 1) := by decide +kernel
theorem dJx4a65c_fastRemove_b59b0_7 : decode cJx4a65c_fastRemove_b59b0 7 = .ok (.putfield 63, 3) := by decide +kernel
theorem dJx4a65c_fastRemove_b59b0_10 : decode cJx4a65c_fastRemove_b59b0 10 = .ok (.aload_n 0, 1) := by decide +kernel
theorem dJx4a65c_fastRemove_b59b0_11 : decode cJx4a65c_fastRemove_b59b0 11 = .ok (.getfield 48, 3) := by decide +kernel
theorem dJx4a65c_fastRemove_b59b0_14 : decode cJx4a65c_fastRemove_b59b0 14 = .ok (.iconst 1, 1) := by decide +kernel
theorem dJx4a65c_fastRemove_b59b0_15 : decode cJx4a65c_fastRemove_b59b0 15 = .ok (.isub, 1) := by decide +kernel
theorem dJx4a65c_fastRemove_b59b0_16 : decode cJx4a65c_fastRemove_b59b0 16 = .ok (.dup, 1) := by decide +kernel
theorem dJx4a65c_fastRemove_b59b0_17 : decode cJx4a65c_fastRemove_b59b0 17 = .ok (.istore_n 3, 1) := by decide +kernel
theorem dJx4a65c_fastRemove_b59b0_18 : decode cJx4a65c_fastRemove_b59b0 18 = .ok (.iload_n 2, 1) := by decide +kernel
theorem dJx4a65c_fastRemove_b59b0_19 : decode cJx4a65c_fastRemove_b59b0 19 = .ok (.if_icmp .le 15, 3) := by decide +kernel
theorem dJx4a65c_fastRemove_b59b0_22 : decode cJx4a65c_fastRemove_b59b0 22 = .ok (.aload_n 1, 1) := by decide +kernel
theorem dJx4a65c_fastRemove_b59b0_23 : decode cJx4a65c_fastRemove_b59b0 23 = .ok (.iload_n 2, 1) := by decide +kernel
theorem dJx4a65c_fastRemove_b59b0_24 : decode cJx4a65c_fastRemove_b59b0 24 = .ok (.iconst 1, 1) := by decide +kernel
theorem dJx4a65c_fastRemove_b59b0_25 : decode cJx4a65c_fastRemove_b59b0 25 = .ok (.iadd, 1) := by decide +kernel
theorem dJx4a65c_fastRemove_b59b0_26 : decode cJx4a65c_fastRemove_b59b0 26 = .ok (.aload_n 1, 1) := by decide +kernel
theorem dJx4a65c_fastRemove_b59b0_27 : decode cJx4a65c_fastRemove_b59b0 27 = .ok (.iload_n 2, 1) := by decide +kernel
theorem dJx4a65c_fastRemove_b59b0_28 : decode cJx4a65c_fastRemove_b59b0 28 = .ok (.iload_n 3, 1) := by decide +kernel
theorem dJx4a65c_fastRemove_b59b0_29 : decode cJx4a65c_fastRemove_b59b0 29 = .ok (.iload_n 2, 1) := by decide +kernel
theorem dJx4a65c_fastRemove_b59b0_30 : decode cJx4a65c_fastRemove_b59b0 30 = .ok (.isub, 1) := by decide +kernel
theorem dJx4a65c_fastRemove_b59b0_31 : decode cJx4a65c_fastRemove_b59b0 31 = .ok (.invokestatic 112, 3) := by decide +kernel
theorem dJx4a65c_fastRemove_b59b0_34 : decode cJx4a65c_fastRemove_b59b0 34 = .ok (.aload_n 1, 1) := by decide +kernel
theorem dJx4a65c_fastRemove_b59b0_35 : decode cJx4a65c_fastRemove_b59b0 35 = .ok (.aload_n 0, 1) := by decide +kernel
theorem dJx4a65c_fastRemove_b59b0_36 : decode cJx4a65c_fastRemove_b59b0 36 = .ok (.iload_n 3, 1) := by decide +kernel
theorem dJx4a65c_fastRemove_b59b0_37 : decode cJx4a65c_fastRemove_b59b0 37 = .ok (.dup_x1, 1) := by decide +kernel
theorem dJx4a65c_fastRemove_b59b0_38 : decode cJx4a65c_fastRemove_b59b0 38 = .ok (.putfield 48, 3) := by decide +kernel
theorem dJx4a65c_fastRemove_b59b0_41 : decode cJx4a65c_fastRemove_b59b0 41 = .ok (.aconst_null, 1) := by decide +kernel
theorem dJx4a65c_fastRemove_b59b0_42 : decode cJx4a65c_fastRemove_b59b0 42 = .ok (.aastore, 1) := by decide +kernel
theorem dJx4a65c_fastRemove_b59b0_43 : decode cJx4a65c_fastRemove_b59b0 43 = .ok (.return_, 1) := by decide +kernel
theorem dJx4a65c_rangeCheckForAdd_d00df_0 : decode cJx4a65c_rangeCheckForAdd_d00df 0 = .ok (.iload_n 1, 1) := by decide +kernel
theorem dJx4a65c_rangeCheckForAdd_d00df_1 : decode cJx4a65c_rangeCheckForAdd_d00df 1 = .ok (.aload_n 0, 1) := by decide +kernel
theorem dJx4a65c_rangeCheckForAdd_d00df_2 : decode cJx4a65c_rangeCheckForAdd_d00df 2 = .ok (.getfield 48, 3) := by decide +kernel
theorem dJx4a65c_rangeCheckForAdd_d00df_5 : decode cJx4a65c_rangeCheckForAdd_d00df 5 = .ok (.if_icmp .gt 7, 3) := by decide +kernel
theorem dJx4a65c_rangeCheckForAdd_d00df_8 : decode cJx4a65c_rangeCheckForAdd_d00df 8 = .ok (.iload_n 1, 1) := by decide +kernel
theorem dJx4a65c_rangeCheckForAdd_d00df_9 : decode cJx4a65c_rangeCheckForAdd_d00df 9 = .ok (.ifCond .ge 16, 3) := by decide +kernel
theorem dJx4a65c_rangeCheckForAdd_d00df_12 : decode cJx4a65c_rangeCheckForAdd_d00df 12 = .ok (.new 187, 3) := by decide +kernel
theorem dJx4a65c_rangeCheckForAdd_d00df_15 : decode cJx4a65c_rangeCheckForAdd_d00df 15 = .ok (.dup, 1) := by decide +kernel
theorem dJx4a65c_rangeCheckForAdd_d00df_16 : decode cJx4a65c_rangeCheckForAdd_d00df 16 = .ok (.aload_n 0, 1) := by decide +kernel
theorem dJx4a65c_rangeCheckForAdd_d00df_17 : decode cJx4a65c_rangeCheckForAdd_d00df 17 = .ok (.iload_n 1, 1) := by decide +kernel
theorem dJx4a65c_rangeCheckForAdd_d00df_18 : decode cJx4a65c_rangeCheckForAdd_d00df 18 = .ok (.invokevirtual 198, 3) := by decide +kernel
theorem dJx4a65c_rangeCheckForAdd_d00df_21 : decode cJx4a65c_rangeCheckForAdd_d00df 21 = .ok (.invokespecial 193, 3) := by decide +kernel
theorem dJx4a65c_rangeCheckForAdd_d00df_24 : decode cJx4a65c_rangeCheckForAdd_d00df 24 = .ok (.athrow, 1) := by decide +kernel
theorem dJx4a65c_rangeCheckForAdd_d00df_25 : decode cJx4a65c_rangeCheckForAdd_d00df 25 = .ok (.return_, 1) := by decide +kernel
theorem dJ7_copyOf_1904c_0 : decode cJ7_copyOf_1904c 0 = .ok (.aload_n 0, 1) := by decide +kernel
theorem dJ7_copyOf_1904c_1 : decode cJ7_copyOf_1904c 1 = .ok (.iload_n 1, 1) := by decide +kernel
theorem dJ7_copyOf_1904c_2 : decode cJ7_copyOf_1904c 2 = .ok (.aload_n 0, 1) := by decide +kernel
theorem dJ7_copyOf_1904c_3 : decode cJ7_copyOf_1904c 3 = .ok (.invokevirtual 86, 3) := by decide +kernel
theorem dJ7_copyOf_1904c_6 : decode cJ7_copyOf_1904c 6 = .ok (.invokestatic 300, 3) := by decide +kernel
theorem dJ7_copyOf_1904c_9 : decode cJ7_copyOf_1904c 9 = .ok (.areturn, 1) := by decide +kernel
theorem dJ7_copyOf_6403c_0 : decode cJ7_copyOf_6403c 0 = .ok (.aload_n 2, 1) := by decide +kernel
theorem dJ7_copyOf_6403c_1 : decode cJ7_copyOf_6403c 1 = .ok (.ldc 110, 2) := by decide +kernel
theorem dJ7_copyOf_6403c_3 : decode cJ7_copyOf_6403c 3 = .ok (.if_acmp .ne 10, 3) := by decide +kernel
theorem dJ7_copyOf_6403c_6 : decode cJ7_copyOf_6403c 6 = .ok (.iload_n 1, 1) := by decide +kernel
theorem dJ7_copyOf_6403c_7 : decode cJ7_copyOf_6403c 7 = .ok (.anewarray 2, 3) := by decide +kernel
theorem dJ7_copyOf_6403c_10 : decode cJ7_copyOf_6403c 10 = .ok (.goto 14, 3) := by decide +kernel
theorem dJ7_copyOf_6403c_13 : decode cJ7_copyOf_6403c 13 = .ok (.aload_n 2, 1) := by decide +kernel
theorem dJ7_copyOf_6403c_14 : decode cJ7_copyOf_6403c 14 = .ok (.invokevirtual 90, 3) := by decide +kernel
theorem dJ7_copyOf_6403c_17 : decode cJ7_copyOf_6403c 17 = .ok (.iload_n 1, 1) := by decide +kernel
theorem dJ7_copyOf_6403c_18 : decode cJ7_copyOf_6403c 18 = .ok (.invokestatic 95, 3) := by decide +kernel
theorem dJ7_copyOf_6403c_21 : decode cJ7_copyOf_6403c 21 = .ok (.checkcast 110, 3) := by decide +kernel
theorem dJ7_copyOf_6403c_24 : decode cJ7_copyOf_6403c 24 = .ok (.astore_n 3, 1) := by decide +kernel
theorem dJ7_copyOf_6403c_25 : decode cJ7_copyOf_6403c 25 = .ok (.aload_n 0, 1) := by decide +kernel
theorem dJ7_copyOf_6403c_26 : decode cJ7_copyOf_6403c 26 = .ok (.iconst 0, 1) := by decide +kernel
theorem dJ7_copyOf_6403c_27 : decode cJ7_copyOf_6403c 27 = .ok (.aload_n 3, 1) := by decide +kernel
theorem dJ7_copyOf_6403c_28 : decode cJ7_copyOf_6403c 28 = .ok (.iconst 0, 1) := by decide +kernel
theorem dJ7_copyOf_6403c_29 : decode cJ7_copyOf_6403c 29 = .ok (.aload_n 0, 1) := by decide +kernel
theorem dJ7_copyOf_6403c_30 : decode cJ7_copyOf_6403c 30 = .ok (.arraylength, 1) := by decide +kernel
theorem dJ7_copyOf_6403c_31 : decode cJ7_copyOf_6403c 31 = .ok (.iload_n 1, 1) := by decide +kernel
theorem dJ7_copyOf_6403c_32 : decode cJ7_copyOf_6403c 32 = .ok (.invokestatic 304, 3) := by decide +kernel
theorem dJ7_copyOf_6403c_35 : decode cJ7_copyOf_6403c 35 = .ok (.invokestatic 150, 3) := by decide +kernel
theorem dJ7_copyOf_6403c_38 : decode cJ7_copyOf_6403c 38 = .ok (.aload_n 3, 1) := by decide +kernel
theorem dJ7_copyOf_6403c_39 : decode cJ7_copyOf_6403c 39 = .ok (.areturn, 1) := by decide +kernel
theorem dJ15_checkIndex_7cf53_0 : decode cJ15_checkIndex_7cf53 0 = .ok (.iload_n 0, 1) := by decide +kernel
theorem dJ15_checkIndex_7cf53_1 : decode cJ15_checkIndex_7cf53 1 = .ok (.iload_n 1, 1) := by decide +kernel
theorem dJ15_checkIndex_7cf53_2 : decode cJ15_checkIndex_7cf53 2 = .ok (.aconst_null, 1) := by decide +kernel
theorem dJ15_checkIndex_7cf53_3 : decode cJ15_checkIndex_7cf53 3 = .ok (.invokestatic 105, 3) := by decide +kernel
theorem dJ15_checkIndex_7cf53_6 : decode cJ15_checkIndex_7cf53 6 = .ok (.ireturn, 1) := by decide +kernel
theorem dJ8_newLength_cabcc_0 : decode cJ8_newLength_cabcc 0 = .ok (.iload_n 0, 1) := by decide +kernel
theorem dJ8_newLength_cabcc_1 : decode cJ8_newLength_cabcc 1 = .ok (.iload_n 1, 1) := by decide +kernel
theorem dJ8_newLength_cabcc_2 : decode cJ8_newLength_cabcc 2 = .ok (.iload_n 2, 1) := by decide +kernel
theorem dJ8_newLength_cabcc_3 : decode cJ8_newLength_cabcc 3 = .ok (.invokestatic 194, 3) := by decide +kernel
theorem dJ8_newLength_cabcc_6 : decode cJ8_newLength_cabcc 6 = .ok (.iadd, 1) := by decide +kernel
theorem dJ8_newLength_cabcc_7 : decode cJ8_newLength_cabcc 7 = .ok (.istore_n 3, 1) := by decide +kernel
theorem dJ8_newLength_cabcc_8 : decode cJ8_newLength_cabcc 8 = .ok (.iconst 0, 1) := by decide +kernel
theorem dJ8_newLength_cabcc_9 : decode cJ8_newLength_cabcc 9 = .ok (.iload_n 3, 1) := by decide +kernel
theorem dJ8_newLength_cabcc_10 : decode cJ8_newLength_cabcc 10 = .ok (.if_icmp .ge 11, 3) := by decide +kernel
theorem dJ8_newLength_cabcc_13 : decode cJ8_newLength_cabcc 13 = .ok (.iload_n 3, 1) := by decide +kernel
theorem dJ8_newLength_cabcc_14 : decode cJ8_newLength_cabcc 14 = .ok (.ldc 200, 2) := by decide +kernel
theorem dJ8_newLength_cabcc_16 : decode cJ8_newLength_cabcc 16 = .ok (.if_icmp .gt 5, 3) := by decide +kernel
theorem dJ8_newLength_cabcc_19 : decode cJ8_newLength_cabcc 19 = .ok (.iload_n 3, 1) := by decide +kernel
theorem dJ8_newLength_cabcc_20 : decode cJ8_newLength_cabcc 20 = .ok (.ireturn, 1) := by decide +kernel
theorem dJ8_newLength_cabcc_21 : decode cJ8_newLength_cabcc 21 = .ok (.iload_n 0, 1) := by decide +kernel
theorem dJ8_newLength_cabcc_22 : decode cJ8_newLength_cabcc 22 = .ok (.iload_n 1, 1) := by decide +kernel
theorem dJ8_newLength_cabcc_23 : decode cJ8_newLength_cabcc 23 = .ok (.invokestatic 201, 3) := by decide +kernel
theorem dJ8_newLength_cabcc_26 : decode cJ8_newLength_cabcc 26 = .ok (.ireturn, 1) := by decide +kernel
theorem dJ8_hugeLength_7cf53_0 : decode cJ8_hugeLength_7cf53 0 = .ok (.iload_n 0, 1) := by decide +kernel
theorem dJ8_hugeLength_7cf53_1 : decode cJ8_hugeLength_7cf53 1 = .ok (.iload_n 1, 1) := by decide +kernel
theorem dJ8_hugeLength_7cf53_2 : decode cJ8_hugeLength_7cf53 2 = .ok (.iadd, 1) := by decide +kernel
theorem dJ8_hugeLength_7cf53_3 : decode cJ8_hugeLength_7cf53 3 = .ok (.istore_n 2, 1) := by decide +kernel
theorem dJ8_hugeLength_7cf53_4 : decode cJ8_hugeLength_7cf53 4 = .ok (.iload_n 2, 1) := by decide +kernel
theorem dJ8_hugeLength_7cf53_5 : decode cJ8_hugeLength_7cf53 5 = .ok (.ifCond .ge 44, 3) := by decide +kernel
theorem dJ8_hugeLength_7cf53_8 : decode cJ8_hugeLength_7cf53 8 = .ok (.new 204, 3) := by decide +kernel
theorem dJ8_hugeLength_7cf53_11 : decode cJ8_hugeLength_7cf53 11 = .ok (.dup, 1) := by decide +kernel
theorem dJ8_hugeLength_7cf53_12 : decode cJ8_hugeLength_7cf53 12 = .ok (.new 89, 3) := by decide +kernel
theorem dJ8_hugeLength_7cf53_15 : decode cJ8_hugeLength_7cf53 15 = .ok (.dup, 1) := by decide +kernel
theorem dJ8_hugeLength_7cf53_16 : decode cJ8_hugeLength_7cf53 16 = .ok (.invokespecial 91, 3) := by decide +kernel
theorem dJ8_hugeLength_7cf53_19 : decode cJ8_hugeLength_7cf53 19 = .ok (.ldc 206, 2) := by decide +kernel
theorem dJ8_hugeLength_7cf53_21 : decode cJ8_hugeLength_7cf53 21 = .ok (.invokevirtual 94, 3) := by decide +kernel
theorem dJ8_hugeLength_7cf53_24 : decode cJ8_hugeLength_7cf53 24 = .ok (.iload_n 0, 1) := by decide +kernel
theorem dJ8_hugeLength_7cf53_25 : decode cJ8_hugeLength_7cf53 25 = .ok (.invokevirtual 98, 3) := by decide +kernel
theorem dJ8_hugeLength_7cf53_28 : decode cJ8_hugeLength_7cf53 28 = .ok (.ldc 208, 2) := by decide +kernel
theorem dJ8_hugeLength_7cf53_30 : decode cJ8_hugeLength_7cf53 30 = .ok (.invokevirtual 94, 3) := by decide +kernel
theorem dJ8_hugeLength_7cf53_33 : decode cJ8_hugeLength_7cf53 33 = .ok (.iload_n 1, 1) := by decide +kernel
theorem dJ8_hugeLength_7cf53_34 : decode cJ8_hugeLength_7cf53 34 = .ok (.invokevirtual 98, 3) := by decide +kernel
theorem dJ8_hugeLength_7cf53_37 : decode cJ8_hugeLength_7cf53 37 = .ok (.ldc 210, 2) := by decide +kernel
theorem dJ8_hugeLength_7cf53_39 : decode cJ8_hugeLength_7cf53 39 = .ok (.invokevirtual 94, 3) := by decide +kernel
theorem dJ8_hugeLength_7cf53_42 : decode cJ8_hugeLength_7cf53 42 = .ok (.invokevirtual 101, 3) := by decide +kernel
theorem dJ8_hugeLength_7cf53_45 : decode cJ8_hugeLength_7cf53 45 = .ok (.invokespecial 212, 3) := by decide +kernel
theorem dJ8_hugeLength_7cf53_48 : decode cJ8_hugeLength_7cf53 48 = .ok (.athrow, 1) := by decide +kernel
theorem dJ8_hugeLength_7cf53_49 : decode cJ8_hugeLength_7cf53 49 = .ok (.iload_n 2, 1) := by decide +kernel
theorem dJ8_hugeLength_7cf53_50 : decode cJ8_hugeLength_7cf53 50 = .ok (.ldc 200, 2) := by decide +kernel
theorem dJ8_hugeLength_7cf53_52 : decode cJ8_hugeLength_7cf53 52 = .ok (.if_icmp .gt 6, 3) := by decide +kernel
theorem dJ8_hugeLength_7cf53_55 : decode cJ8_hugeLength_7cf53 55 = .ok (.ldc 200, 2) := by decide +kernel
theorem dJ8_hugeLength_7cf53_57 : decode cJ8_hugeLength_7cf53 57 = .ok (.ireturn, 1) := by decide +kernel
theorem dJ8_hugeLength_7cf53_58 : decode cJ8_hugeLength_7cf53 58 = .ok (.iload_n 2, 1) := by decide +kernel
theorem dJ8_hugeLength_7cf53_59 : decode cJ8_hugeLength_7cf53 59 = .ok (.ireturn, 1) := by decide +kernel
theorem dJ3_checkIndex_8e157_0 : decode cJ3_checkIndex_8e157 0 = .ok (.iload_n 0, 1) := by decide +kernel
theorem dJ3_checkIndex_8e157_1 : decode cJ3_checkIndex_8e157 1 = .ok (.ifCond .lt 8, 3) := by decide +kernel
theorem dJ3_checkIndex_8e157_4 : decode cJ3_checkIndex_8e157 4 = .ok (.iload_n 0, 1) := by decide +kernel
theorem dJ3_checkIndex_8e157_5 : decode cJ3_checkIndex_8e157 5 = .ok (.iload_n 1, 1) := by decide +kernel
theorem dJ3_checkIndex_8e157_6 : decode cJ3_checkIndex_8e157 6 = .ok (.if_icmp .lt 10, 3) := by decide +kernel
theorem dJ3_checkIndex_8e157_9 : decode cJ3_checkIndex_8e157 9 = .ok (.aload_n 2, 1) := by decide +kernel
theorem dJ3_checkIndex_8e157_10 : decode cJ3_checkIndex_8e157 10 = .ok (.iload_n 0, 1) := by decide +kernel
theorem dJ3_checkIndex_8e157_11 : decode cJ3_checkIndex_8e157 11 = .ok (.iload_n 1, 1) := by decide +kernel
theorem dJ3_checkIndex_8e157_12 : decode cJ3_checkIndex_8e157 12 = .ok (.invokestatic 95, 3) := by decide +kernel
theorem dJ3_checkIndex_8e157_15 : decode cJ3_checkIndex_8e157 15 = .ok (.athrow, 1) := by decide +kernel
theorem dJ3_checkIndex_8e157_16 : decode cJ3_checkIndex_8e157 16 = .ok (.iload_n 0, 1) := by decide +kernel
theorem dJ3_checkIndex_8e157_17 : decode cJ3_checkIndex_8e157 17 = .ok (.ireturn, 1) := by decide +kernel
end
section
theorem dX0_init_0 : decode cX0_init 0 = .ok (.aload_n 0, 1) := by decide +kernel
theorem dX0_init_1 : decode cX0_init 1 = .ok (.invokespecial 1, 3) := by decide +kernel
theorem dX0_init_4 : decode cX0_init 4 = .ok (.aload_n 0, 1) := by decide +kernel
theorem dX0_init_5 : decode cX0_init 5 = .ok (.aload_n 1, 1) := by decide +kernel
theorem dX0_init_6 : decode cX0_init 6 = .ok (.putfield 7, 3) := by decide +kernel
theorem dX0_init_9 : decode cX0_init 9 = .ok (.aload_n 0, 1) := by decide +kernel
theorem dX0_init_10 : decode cX0_init 10 = .ok (.iload_n 2, 1) := by decide +kernel
theorem dX0_init_11 : decode cX0_init 11 = .ok (.putfield 13, 3) := by decide +kernel
theorem dX0_init_14 : decode cX0_init 14 = .ok (.aload_n 0, 1) := by decide +kernel
theorem dX0_init_15 : decode cX0_init 15 = .ok (.iload_n 3, 1) := by decide +kernel
theorem dX0_init_16 : decode cX0_init 16 = .ok (.putfield 17, 3) := by decide +kernel
theorem dX0_init_19 : decode cX0_init 19 = .ok (.aload_n 0, 1) := by decide +kernel
theorem dX0_init_20 : decode cX0_init 20 = .ok (.iload 4, 2) := by decide +kernel
theorem dX0_init_22 : decode cX0_init 22 = .ok (.putfield 20, 3) := by decide +kernel
theorem dX0_init_25 : decode cX0_init 25 = .ok (.return_, 1) := by decide +kernel
theorem dX1_init_0 : decode cX1_init 0 = .ok (.aload_n 0, 1) := by decide +kernel
theorem dX1_init_1 : decode cX1_init 1 = .ok (.invokespecial 3, 3) := by decide +kernel
theorem dX1_init_4 : decode cX1_init 4 = .ok (.aload_n 0, 1) := by decide +kernel
theorem dX1_init_5 : decode cX1_init 5 = .ok (.iload_n 1, 1) := by decide +kernel
theorem dX1_init_6 : decode cX1_init 6 = .ok (.putfield 9, 3) := by decide +kernel
theorem dX1_init_9 : decode cX1_init 9 = .ok (.aload_n 0, 1) := by decide +kernel
theorem dX1_init_10 : decode cX1_init 10 = .ok (.iload_n 2, 1) := by decide +kernel
theorem dX1_init_11 : decode cX1_init 11 = .ok (.putfield 15, 3) := by decide +kernel
theorem dX1_init_14 : decode cX1_init 14 = .ok (.aload_n 0, 1) := by decide +kernel
theorem dX1_init_15 : decode cX1_init 15 = .ok (.iload_n 3, 1) := by decide +kernel
theorem dX1_init_16 : decode cX1_init 16 = .ok (.putfield 18, 3) := by decide +kernel
theorem dX1_init_19 : decode cX1_init 19 = .ok (.aload_n 0, 1) := by decide +kernel
theorem dX1_init_20 : decode cX1_init 20 = .ok (.iload 4, 2) := by decide +kernel
theorem dX1_init_22 : decode cX1_init 22 = .ok (.putfield 21, 3) := by decide +kernel
theorem dX1_init_25 : decode cX1_init 25 = .ok (.aload_n 0, 1) := by decide +kernel
theorem dX1_init_26 : decode cX1_init 26 = .ok (.iload 5, 2) := by decide +kernel
theorem dX1_init_28 : decode cX1_init 28 = .ok (.putfield 24, 3) := by decide +kernel
theorem dX1_init_31 : decode cX1_init 31 = .ok (.aload_n 0, 1) := by decide +kernel
theorem dX1_init_32 : decode cX1_init 32 = .ok (.iload 6, 2) := by decide +kernel
theorem dX1_init_34 : decode cX1_init 34 = .ok (.putfield 27, 3) := by decide +kernel
theorem dX1_init_37 : decode cX1_init 37 = .ok (.aload_n 0, 1) := by decide +kernel
theorem dX1_init_38 : decode cX1_init 38 = .ok (.iconst 0, 1) := by decide +kernel
theorem dX1_init_39 : decode cX1_init 39 = .ok (.putfield 31, 3) := by decide +kernel
theorem dX1_init_42 : decode cX1_init 42 = .ok (.aload_n 0, 1) := by decide +kernel
theorem dX1_init_43 : decode cX1_init 43 = .ok (.bipush (-9), 2) := by decide +kernel
theorem dX1_init_45 : decode cX1_init 45 = .ok (.putfield 34, 3) := by decide +kernel
theorem dX1_init_48 : decode cX1_init 48 = .ok (.aload_n 0, 1) := by decide +kernel
theorem dX1_init_49 : decode cX1_init 49 = .ok (.bipush (-9), 2) := by decide +kernel
theorem dX1_init_51 : decode cX1_init 51 = .ok (.putfield 37, 3) := by decide +kernel
theorem dX1_init_54 : decode cX1_init 54 = .ok (.return_, 1) := by decide +kernel
theorem dX1_hasEnded_0 : decode cX1_hasEnded 0 = .ok (.aload_n 0, 1) := by decide +kernel
theorem dX1_hasEnded_1 : decode cX1_hasEnded 1 = .ok (.getfield 31, 3) := by decide +kernel
theorem dX1_hasEnded_4 : decode cX1_hasEnded 4 = .ok (.ifCond .eq 15, 3) := by decide +kernel
theorem dX1_hasEnded_7 : decode cX1_hasEnded 7 = .ok (.aload_n 0, 1) := by decide +kernel
theorem dX1_hasEnded_8 : decode cX1_hasEnded 8 = .ok (.getfield 31, 3) := by decide +kernel
theorem dX1_hasEnded_11 : decode cX1_hasEnded 11 = .ok (.iconst 1, 1) := by decide +kernel
theorem dX1_hasEnded_12 : decode cX1_hasEnded 12 = .ok (.if_icmp .eq 7, 3) := by decide +kernel
theorem dX1_hasEnded_15 : decode cX1_hasEnded 15 = .ok (.iconst 1, 1) := by decide +kernel
theorem dX1_hasEnded_16 : decode cX1_hasEnded 16 = .ok (.goto 4, 3) := by decide +kernel
theorem dX1_hasEnded_19 : decode cX1_hasEnded 19 = .ok (.iconst 0, 1) := by decide +kernel
theorem dX1_hasEnded_20 : decode cX1_hasEnded 20 = .ok (.ireturn, 1) := by decide +kernel
theorem dX1_goesAheadOf_0 : decode cX1_goesAheadOf 0 = .ok (.aload_n 0, 1) := by decide +kernel
theorem dX1_goesAheadOf_1 : decode cX1_goesAheadOf 1 = .ok (.getfield 18, 3) := by decide +kernel
theorem dX1_goesAheadOf_4 : decode cX1_goesAheadOf 4 = .ok (.aload_n 1, 1) := by decide +kernel
theorem dX1_goesAheadOf_5 : decode cX1_goesAheadOf 5 = .ok (.getfield 18, 3) := by decide +kernel
theorem dX1_goesAheadOf_8 : decode cX1_goesAheadOf 8 = .ok (.if_icmp .eq 20, 3) := by decide +kernel
theorem dX1_goesAheadOf_11 : decode cX1_goesAheadOf 11 = .ok (.aload_n 0, 1) := by decide +kernel
theorem dX1_goesAheadOf_12 : decode cX1_goesAheadOf 12 = .ok (.getfield 18, 3) := by decide +kernel
theorem dX1_goesAheadOf_15 : decode cX1_goesAheadOf 15 = .ok (.aload_n 1, 1) := by decide +kernel
theorem dX1_goesAheadOf_16 : decode cX1_goesAheadOf 16 = .ok (.getfield 18, 3) := by decide +kernel
theorem dX1_goesAheadOf_19 : decode cX1_goesAheadOf 19 = .ok (.if_icmp .le 7, 3) := by decide +kernel
theorem dX1_goesAheadOf_22 : decode cX1_goesAheadOf 22 = .ok (.iconst 1, 1) := by decide +kernel
theorem dX1_goesAheadOf_23 : decode cX1_goesAheadOf 23 = .ok (.goto 4, 3) := by decide +kernel
theorem dX1_goesAheadOf_26 : decode cX1_goesAheadOf 26 = .ok (.iconst 0, 1) := by decide +kernel
theorem dX1_goesAheadOf_27 : decode cX1_goesAheadOf 27 = .ok (.ireturn, 1) := by decide +kernel
theorem dX1_goesAheadOf_28 : decode cX1_goesAheadOf 28 = .ok (.aload_n 0, 1) := by decide +kernel
theorem dX1_goesAheadOf_29 : decode cX1_goesAheadOf 29 = .ok (.getfield 24, 3) := by decide +kernel
theorem dX1_goesAheadOf_32 : decode cX1_goesAheadOf 32 = .ok (.aload_n 1, 1) := by decide +kernel
theorem dX1_goesAheadOf_33 : decode cX1_goesAheadOf 33 = .ok (.getfield 24, 3) := by decide +kernel
theorem dX1_goesAheadOf_36 : decode cX1_goesAheadOf 36 = .ok (.if_icmp .eq 22, 3) := by decide +kernel
theorem dX1_goesAheadOf_39 : decode cX1_goesAheadOf 39 = .ok (.aload_n 0, 1) := by decide +kernel
theorem dX1_goesAheadOf_40 : decode cX1_goesAheadOf 40 = .ok (.getfield 24, 3) := by decide +kernel
theorem dX1_goesAheadOf_43 : decode cX1_goesAheadOf 43 = .ok (.aload_n 1, 1) := by decide +kernel
theorem dX1_goesAheadOf_44 : decode cX1_goesAheadOf 44 = .ok (.getfield 24, 3) := by decide +kernel
theorem dX1_goesAheadOf_47 : decode cX1_goesAheadOf 47 = .ok (.if_icmp .ge 7, 3) := by decide +kernel
theorem dX1_goesAheadOf_50 : decode cX1_goesAheadOf 50 = .ok (.iconst 1, 1) := by decide +kernel
theorem dX1_goesAheadOf_51 : decode cX1_goesAheadOf 51 = .ok (.goto 23, 3) := by decide +kernel
theorem dX1_goesAheadOf_54 : decode cX1_goesAheadOf 54 = .ok (.iconst 0, 1) := by decide +kernel
theorem dX1_goesAheadOf_55 : decode cX1_goesAheadOf 55 = .ok (.goto 19, 3) := by decide +kernel
theorem dX1_goesAheadOf_58 : decode cX1_goesAheadOf 58 = .ok (.aload_n 0, 1) := by decide +kernel
theorem dX1_goesAheadOf_59 : decode cX1_goesAheadOf 59 = .ok (.getfield 9, 3) := by decide +kernel
theorem dX1_goesAheadOf_62 : decode cX1_goesAheadOf 62 = .ok (.aload_n 1, 1) := by decide +kernel
theorem dX1_goesAheadOf_63 : decode cX1_goesAheadOf 63 = .ok (.getfield 9, 3) := by decide +kernel
theorem dX1_goesAheadOf_66 : decode cX1_goesAheadOf 66 = .ok (.if_icmp .ge 7, 3) := by decide +kernel
theorem dX1_goesAheadOf_69 : decode cX1_goesAheadOf 69 = .ok (.iconst 1, 1) := by decide +kernel
theorem dX1_goesAheadOf_70 : decode cX1_goesAheadOf 70 = .ok (.goto 4, 3) := by decide +kernel
theorem dX1_goesAheadOf_73 : decode cX1_goesAheadOf 73 = .ok (.iconst 0, 1) := by decide +kernel
theorem dX1_goesAheadOf_74 : decode cX1_goesAheadOf 74 = .ok (.ireturn, 1) := by decide +kernel
theorem dX1_begin_0 : decode cX1_begin 0 = .ok (.aload_n 0, 1) := by decide +kernel
theorem dX1_begin_1 : decode cX1_begin 1 = .ok (.getfield 40, 3) := by decide +kernel
theorem dX1_begin_4 : decode cX1_begin 4 = .ok (.ifnonnull 11, 3) := by decide +kernel
theorem dX1_begin_7 : decode cX1_begin 7 = .ok (.aload_n 0, 1) := by decide +kernel
theorem dX1_begin_8 : decode cX1_begin 8 = .ok (.aload_n 1, 1) := by decide +kernel
theorem dX1_begin_9 : decode cX1_begin 9 = .ok (.putfield 40, 3) := by decide +kernel
theorem dX1_begin_12 : decode cX1_begin 12 = .ok (.goto 8, 3) := by decide +kernel
theorem dX1_begin_15 : decode cX1_begin 15 = .ok (.aload_n 0, 1) := by decide +kernel
theorem dX1_begin_16 : decode cX1_begin 16 = .ok (.aload_n 1, 1) := by decide +kernel
theorem dX1_begin_17 : decode cX1_begin 17 = .ok (.putfield 44, 3) := by decide +kernel
theorem dX1_begin_20 : decode cX1_begin 20 = .ok (.aload_n 0, 1) := by decide +kernel
theorem dX1_begin_21 : decode cX1_begin 21 = .ok (.dup, 1) := by decide +kernel
theorem dX1_begin_22 : decode cX1_begin 22 = .ok (.getfield 47, 3) := by decide +kernel
theorem dX1_begin_25 : decode cX1_begin 25 = .ok (.iconst 1, 1) := by decide +kernel
theorem dX1_begin_26 : decode cX1_begin 26 = .ok (.aload_n 1, 1) := by decide +kernel
theorem dX1_begin_27 : decode cX1_begin 27 = .ok (.getfield 50, 3) := by decide +kernel
theorem dX1_begin_30 : decode cX1_begin 30 = .ok (.getfield 56, 3) := by decide +kernel
theorem dX1_begin_33 : decode cX1_begin 33 = .ok (.ishl, 1) := by decide +kernel
theorem dX1_begin_34 : decode cX1_begin 34 = .ok (.ior, 1) := by decide +kernel
theorem dX1_begin_35 : decode cX1_begin 35 = .ok (.putfield 47, 3) := by decide +kernel
theorem dX1_begin_38 : decode cX1_begin 38 = .ok (.aload_n 0, 1) := by decide +kernel
theorem dX1_begin_39 : decode cX1_begin 39 = .ok (.iconst 1, 1) := by decide +kernel
theorem dX1_begin_40 : decode cX1_begin 40 = .ok (.putfield 31, 3) := by decide +kernel
theorem dX1_begin_43 : decode cX1_begin 43 = .ok (.return_, 1) := by decide +kernel
theorem dX1_letGo_0 : decode cX1_letGo 0 = .ok (.aload_n 1, 1) := by decide +kernel
theorem dX1_letGo_1 : decode cX1_letGo 1 = .ok (.getfield 50, 3) := by decide +kernel
theorem dX1_letGo_4 : decode cX1_letGo 4 = .ok (.dup, 1) := by decide +kernel
theorem dX1_letGo_5 : decode cX1_letGo 5 = .ok (.getfield 59, 3) := by decide +kernel
theorem dX1_letGo_8 : decode cX1_letGo 8 = .ok (.iconst 1, 1) := by decide +kernel
theorem dX1_letGo_9 : decode cX1_letGo 9 = .ok (.isub, 1) := by decide +kernel
theorem dX1_letGo_10 : decode cX1_letGo 10 = .ok (.putfield 59, 3) := by decide +kernel
theorem dX1_letGo_13 : decode cX1_letGo 13 = .ok (.aload_n 1, 1) := by decide +kernel
theorem dX1_letGo_14 : decode cX1_letGo 14 = .ok (.aload_n 0, 1) := by decide +kernel
theorem dX1_letGo_15 : decode cX1_letGo 15 = .ok (.getfield 40, 3) := by decide +kernel
theorem dX1_letGo_18 : decode cX1_letGo 18 = .ok (.if_acmp .ne 11, 3) := by decide +kernel
theorem dX1_letGo_21 : decode cX1_letGo 21 = .ok (.aload_n 0, 1) := by decide +kernel
theorem dX1_letGo_22 : decode cX1_letGo 22 = .ok (.aload_n 0, 1) := by decide +kernel
theorem dX1_letGo_23 : decode cX1_letGo 23 = .ok (.getfield 44, 3) := by decide +kernel
theorem dX1_letGo_26 : decode cX1_letGo 26 = .ok (.putfield 40, 3) := by decide +kernel
theorem dX1_letGo_29 : decode cX1_letGo 29 = .ok (.aload_n 0, 1) := by decide +kernel
theorem dX1_letGo_30 : decode cX1_letGo 30 = .ok (.aconst_null, 1) := by decide +kernel
theorem dX1_letGo_31 : decode cX1_letGo 31 = .ok (.putfield 44, 3) := by decide +kernel
theorem dX1_letGo_34 : decode cX1_letGo 34 = .ok (.return_, 1) := by decide +kernel
theorem dX1_callOffAll_0 : decode cX1_callOffAll 0 = .ok (.aload_n 0, 1) := by decide +kernel
theorem dX1_callOffAll_1 : decode cX1_callOffAll 1 = .ok (.getfield 44, 3) := by decide +kernel
theorem dX1_callOffAll_4 : decode cX1_callOffAll 4 = .ok (.ifnull 11, 3) := by decide +kernel
theorem dX1_callOffAll_7 : decode cX1_callOffAll 7 = .ok (.aload_n 0, 1) := by decide +kernel
theorem dX1_callOffAll_8 : decode cX1_callOffAll 8 = .ok (.aload_n 0, 1) := by decide +kernel
theorem dX1_callOffAll_9 : decode cX1_callOffAll 9 = .ok (.getfield 44, 3) := by decide +kernel
theorem dX1_callOffAll_12 : decode cX1_callOffAll 12 = .ok (.invokevirtual 62, 3) := by decide +kernel
theorem dX1_callOffAll_15 : decode cX1_callOffAll 15 = .ok (.aload_n 0, 1) := by decide +kernel
theorem dX1_callOffAll_16 : decode cX1_callOffAll 16 = .ok (.getfield 40, 3) := by decide +kernel
theorem dX1_callOffAll_19 : decode cX1_callOffAll 19 = .ok (.ifnull 11, 3) := by decide +kernel
theorem dX1_callOffAll_22 : decode cX1_callOffAll 22 = .ok (.aload_n 0, 1) := by decide +kernel
theorem dX1_callOffAll_23 : decode cX1_callOffAll 23 = .ok (.aload_n 0, 1) := by decide +kernel
theorem dX1_callOffAll_24 : decode cX1_callOffAll 24 = .ok (.getfield 40, 3) := by decide +kernel
theorem dX1_callOffAll_27 : decode cX1_callOffAll 27 = .ok (.invokevirtual 62, 3) := by decide +kernel
theorem dX1_callOffAll_30 : decode cX1_callOffAll 30 = .ok (.return_, 1) := by decide +kernel
theorem dX1_tell_0 : decode cX1_tell 0 = .ok (.iload_n 1, 1) := by decide +kernel
theorem dX1_tell_1 : decode cX1_tell 1 = .ok (.tableswitch 170 0 9 #[55, 60, 65, 70, 75, 88, 112, 137, 160, 165], 55) := by decide +kernel
theorem dX1_tell_56 : decode cX1_tell 56 = .ok (.aload_n 0, 1) := by decide +kernel
theorem dX1_tell_57 : decode cX1_tell 57 = .ok (.getfield 31, 3) := by decide +kernel
theorem dX1_tell_60 : decode cX1_tell 60 = .ok (.ireturn, 1) := by decide +kernel
theorem dX1_tell_61 : decode cX1_tell 61 = .ok (.aload_n 0, 1) := by decide +kernel
theorem dX1_tell_62 : decode cX1_tell 62 = .ok (.getfield 15, 3) := by decide +kernel
theorem dX1_tell_65 : decode cX1_tell 65 = .ok (.ireturn, 1) := by decide +kernel
theorem dX1_tell_66 : decode cX1_tell 66 = .ok (.aload_n 0, 1) := by decide +kernel
theorem dX1_tell_67 : decode cX1_tell 67 = .ok (.getfield 18, 3) := by decide +kernel
theorem dX1_tell_70 : decode cX1_tell 70 = .ok (.ireturn, 1) := by decide +kernel
theorem dX1_tell_71 : decode cX1_tell 71 = .ok (.aload_n 0, 1) := by decide +kernel
theorem dX1_tell_72 : decode cX1_tell 72 = .ok (.getfield 24, 3) := by decide +kernel
theorem dX1_tell_75 : decode cX1_tell 75 = .ok (.ireturn, 1) := by decide +kernel
theorem dX1_tell_76 : decode cX1_tell 76 = .ok (.aload_n 0, 1) := by decide +kernel
theorem dX1_tell_77 : decode cX1_tell 77 = .ok (.getfield 27, 3) := by decide +kernel
theorem dX1_tell_80 : decode cX1_tell 80 = .ok (.ifCond .eq 7, 3) := by decide +kernel
theorem dX1_tell_83 : decode cX1_tell 83 = .ok (.iconst 1, 1) := by decide +kernel
theorem dX1_tell_84 : decode cX1_tell 84 = .ok (.goto 4, 3) := by decide +kernel
theorem dX1_tell_87 : decode cX1_tell 87 = .ok (.iconst 0, 1) := by decide +kernel
theorem dX1_tell_88 : decode cX1_tell 88 = .ok (.ireturn, 1) := by decide +kernel
theorem dX1_tell_89 : decode cX1_tell 89 = .ok (.aload_n 0, 1) := by decide +kernel
theorem dX1_tell_90 : decode cX1_tell 90 = .ok (.getfield 40, 3) := by decide +kernel
theorem dX1_tell_93 : decode cX1_tell 93 = .ok (.ifnonnull 7, 3) := by decide +kernel
theorem dX1_tell_96 : decode cX1_tell 96 = .ok (.iconst 0, 1) := by decide +kernel
theorem dX1_tell_97 : decode cX1_tell 97 = .ok (.goto 15, 3) := by decide +kernel
theorem dX1_tell_100 : decode cX1_tell 100 = .ok (.aload_n 0, 1) := by decide +kernel
theorem dX1_tell_101 : decode cX1_tell 101 = .ok (.getfield 44, 3) := by decide +kernel
theorem dX1_tell_104 : decode cX1_tell 104 = .ok (.ifnonnull 7, 3) := by decide +kernel
theorem dX1_tell_107 : decode cX1_tell 107 = .ok (.iconst 1, 1) := by decide +kernel
theorem dX1_tell_108 : decode cX1_tell 108 = .ok (.goto 4, 3) := by decide +kernel
theorem dX1_tell_111 : decode cX1_tell 111 = .ok (.iconst 2, 1) := by decide +kernel
theorem dX1_tell_112 : decode cX1_tell 112 = .ok (.ireturn, 1) := by decide +kernel
theorem dX1_tell_113 : decode cX1_tell 113 = .ok (.aload_n 0, 1) := by decide +kernel
theorem dX1_tell_114 : decode cX1_tell 114 = .ok (.getfield 40, 3) := by decide +kernel
theorem dX1_tell_117 : decode cX1_tell 117 = .ok (.ifnonnull 10, 3) := by decide +kernel
theorem dX1_tell_120 : decode cX1_tell 120 = .ok (.aload_n 0, 1) := by decide +kernel
theorem dX1_tell_121 : decode cX1_tell 121 = .ok (.getfield 37, 3) := by decide +kernel
theorem dX1_tell_124 : decode cX1_tell 124 = .ok (.goto 13, 3) := by decide +kernel
theorem dX1_tell_127 : decode cX1_tell 127 = .ok (.aload_n 0, 1) := by decide +kernel
theorem dX1_tell_128 : decode cX1_tell 128 = .ok (.getfield 40, 3) := by decide +kernel
theorem dX1_tell_131 : decode cX1_tell 131 = .ok (.getfield 50, 3) := by decide +kernel
theorem dX1_tell_134 : decode cX1_tell 134 = .ok (.getfield 56, 3) := by decide +kernel
theorem dX1_tell_137 : decode cX1_tell 137 = .ok (.ireturn, 1) := by decide +kernel
theorem dX1_tell_138 : decode cX1_tell 138 = .ok (.aload_n 0, 1) := by decide +kernel
theorem dX1_tell_139 : decode cX1_tell 139 = .ok (.getfield 44, 3) := by decide +kernel
theorem dX1_tell_142 : decode cX1_tell 142 = .ok (.ifnonnull 8, 3) := by decide +kernel
theorem dX1_tell_145 : decode cX1_tell 145 = .ok (.bipush (-9), 2) := by decide +kernel
theorem dX1_tell_147 : decode cX1_tell 147 = .ok (.goto 13, 3) := by decide +kernel
theorem dX1_tell_150 : decode cX1_tell 150 = .ok (.aload_n 0, 1) := by decide +kernel
theorem dX1_tell_151 : decode cX1_tell 151 = .ok (.getfield 44, 3) := by decide +kernel
theorem dX1_tell_154 : decode cX1_tell 154 = .ok (.getfield 50, 3) := by decide +kernel
theorem dX1_tell_157 : decode cX1_tell 157 = .ok (.getfield 56, 3) := by decide +kernel
theorem dX1_tell_160 : decode cX1_tell 160 = .ok (.ireturn, 1) := by decide +kernel
theorem dX1_tell_161 : decode cX1_tell 161 = .ok (.aload_n 0, 1) := by decide +kernel
theorem dX1_tell_162 : decode cX1_tell 162 = .ok (.getfield 47, 3) := by decide +kernel
theorem dX1_tell_165 : decode cX1_tell 165 = .ok (.ireturn, 1) := by decide +kernel
theorem dX1_tell_166 : decode cX1_tell 166 = .ok (.aload_n 0, 1) := by decide +kernel
theorem dX1_tell_167 : decode cX1_tell 167 = .ok (.getfield 21, 3) := by decide +kernel
theorem dX1_tell_170 : decode cX1_tell 170 = .ok (.ireturn, 1) := by decide +kernel
theorem dX1_tell_171 : decode cX1_tell 171 = .ok (.aload_n 0, 1) := by decide +kernel
theorem dX1_tell_172 : decode cX1_tell 172 = .ok (.getfield 34, 3) := by decide +kernel
theorem dX1_tell_175 : decode cX1_tell 175 = .ok (.ireturn, 1) := by decide +kernel
theorem dX2_init_0 : decode cX2_init 0 = .ok (.aload_n 0, 1) := by decide +kernel
theorem dX2_init_1 : decode cX2_init 1 = .ok (.invokespecial 3, 3) := by decide +kernel
theorem dX2_init_4 : decode cX2_init 4 = .ok (.aload_n 0, 1) := by decide +kernel
theorem dX2_init_5 : decode cX2_init 5 = .ok (.iload_n 1, 1) := by decide +kernel
theorem dX2_init_6 : decode cX2_init 6 = .ok (.putfield 9, 3) := by decide +kernel
theorem dX2_init_9 : decode cX2_init 9 = .ok (.aload_n 0, 1) := by decide +kernel
theorem dX2_init_10 : decode cX2_init 10 = .ok (.iload_n 2, 1) := by decide +kernel
theorem dX2_init_11 : decode cX2_init 11 = .ok (.putfield 15, 3) := by decide +kernel
theorem dX2_init_14 : decode cX2_init 14 = .ok (.aload_n 0, 1) := by decide +kernel
theorem dX2_init_15 : decode cX2_init 15 = .ok (.iload_n 3, 1) := by decide +kernel
theorem dX2_init_16 : decode cX2_init 16 = .ok (.putfield 18, 3) := by decide +kernel
theorem dX2_init_19 : decode cX2_init 19 = .ok (.aload_n 0, 1) := by decide +kernel
theorem dX2_init_20 : decode cX2_init 20 = .ok (.iload 4, 2) := by decide +kernel
theorem dX2_init_22 : decode cX2_init 22 = .ok (.putfield 21, 3) := by decide +kernel
theorem dX2_init_25 : decode cX2_init 25 = .ok (.aload_n 0, 1) := by decide +kernel
theorem dX2_init_26 : decode cX2_init 26 = .ok (.iload 5, 2) := by decide +kernel
theorem dX2_init_28 : decode cX2_init 28 = .ok (.putfield 24, 3) := by decide +kernel
theorem dX2_init_31 : decode cX2_init 31 = .ok (.aload_n 0, 1) := by decide +kernel
theorem dX2_init_32 : decode cX2_init 32 = .ok (.iload 6, 2) := by decide +kernel
theorem dX2_init_34 : decode cX2_init 34 = .ok (.putfield 27, 3) := by decide +kernel
theorem dX2_init_37 : decode cX2_init 37 = .ok (.aload_n 0, 1) := by decide +kernel
theorem dX2_init_38 : decode cX2_init 38 = .ok (.iconst 0, 1) := by decide +kernel
theorem dX2_init_39 : decode cX2_init 39 = .ok (.putfield 30, 3) := by decide +kernel
theorem dX2_init_42 : decode cX2_init 42 = .ok (.aload_n 0, 1) := by decide +kernel
theorem dX2_init_43 : decode cX2_init 43 = .ok (.bipush 10, 2) := by decide +kernel
theorem dX2_init_45 : decode cX2_init 45 = .ok (.putfield 33, 3) := by decide +kernel
theorem dX2_init_48 : decode cX2_init 48 = .ok (.return_, 1) := by decide +kernel
theorem dX2_mayBeAsked_0 : decode cX2_mayBeAsked 0 = .ok (.iload_n 1, 1) := by decide +kernel
theorem dX2_mayBeAsked_1 : decode cX2_mayBeAsked 1 = .ok (.aload_n 0, 1) := by decide +kernel
theorem dX2_mayBeAsked_2 : decode cX2_mayBeAsked 2 = .ok (.getfield 9, 3) := by decide +kernel
theorem dX2_mayBeAsked_5 : decode cX2_mayBeAsked 5 = .ok (.ishr, 1) := by decide +kernel
theorem dX2_mayBeAsked_6 : decode cX2_mayBeAsked 6 = .ok (.iconst 1, 1) := by decide +kernel
theorem dX2_mayBeAsked_7 : decode cX2_mayBeAsked 7 = .ok (.iand, 1) := by decide +kernel
theorem dX2_mayBeAsked_8 : decode cX2_mayBeAsked 8 = .ok (.ifCond .ne 14, 3) := by decide +kernel
theorem dX2_mayBeAsked_11 : decode cX2_mayBeAsked 11 = .ok (.aload_n 0, 1) := by decide +kernel
theorem dX2_mayBeAsked_12 : decode cX2_mayBeAsked 12 = .ok (.getfield 36, 3) := by decide +kernel
theorem dX2_mayBeAsked_15 : decode cX2_mayBeAsked 15 = .ok (.aload_n 0, 1) := by decide +kernel
theorem dX2_mayBeAsked_16 : decode cX2_mayBeAsked 16 = .ok (.getfield 21, 3) := by decide +kernel
theorem dX2_mayBeAsked_19 : decode cX2_mayBeAsked 19 = .ok (.if_icmp .lt 5, 3) := by decide +kernel
theorem dX2_mayBeAsked_22 : decode cX2_mayBeAsked 22 = .ok (.iconst 0, 1) := by decide +kernel
theorem dX2_mayBeAsked_23 : decode cX2_mayBeAsked 23 = .ok (.ireturn, 1) := by decide +kernel
theorem dX2_mayBeAsked_24 : decode cX2_mayBeAsked 24 = .ok (.aload_n 0, 1) := by decide +kernel
theorem dX2_mayBeAsked_25 : decode cX2_mayBeAsked 25 = .ok (.getfield 30, 3) := by decide +kernel
theorem dX2_mayBeAsked_28 : decode cX2_mayBeAsked 28 = .ok (.ifCond .eq 18, 3) := by decide +kernel
theorem dX2_mayBeAsked_31 : decode cX2_mayBeAsked 31 = .ok (.aload_n 0, 1) := by decide +kernel
theorem dX2_mayBeAsked_32 : decode cX2_mayBeAsked 32 = .ok (.getfield 30, 3) := by decide +kernel
theorem dX2_mayBeAsked_35 : decode cX2_mayBeAsked 35 = .ok (.iconst 2, 1) := by decide +kernel
theorem dX2_mayBeAsked_36 : decode cX2_mayBeAsked 36 = .ok (.if_icmp .ne 14, 3) := by decide +kernel
theorem dX2_mayBeAsked_39 : decode cX2_mayBeAsked 39 = .ok (.aload_n 0, 1) := by decide +kernel
theorem dX2_mayBeAsked_40 : decode cX2_mayBeAsked 40 = .ok (.getfield 36, 3) := by decide +kernel
theorem dX2_mayBeAsked_43 : decode cX2_mayBeAsked 43 = .ok (.ifCond .ne 7, 3) := by decide +kernel
theorem dX2_mayBeAsked_46 : decode cX2_mayBeAsked 46 = .ok (.iconst 1, 1) := by decide +kernel
theorem dX2_mayBeAsked_47 : decode cX2_mayBeAsked 47 = .ok (.goto 4, 3) := by decide +kernel
theorem dX2_mayBeAsked_50 : decode cX2_mayBeAsked 50 = .ok (.iconst 0, 1) := by decide +kernel
theorem dX2_mayBeAsked_51 : decode cX2_mayBeAsked 51 = .ok (.ireturn, 1) := by decide +kernel
theorem dX2_placeOfMark_0 : decode cX2_placeOfMark 0 = .ok (.ldc 39, 2) := by decide +kernel
theorem dX2_placeOfMark_2 : decode cX2_placeOfMark 2 = .ok (.iconst 4, 1) := by decide +kernel
theorem dX2_placeOfMark_3 : decode cX2_placeOfMark 3 = .ok (.aload_n 0, 1) := by decide +kernel
theorem dX2_placeOfMark_4 : decode cX2_placeOfMark 4 = .ok (.getfield 9, 3) := by decide +kernel
theorem dX2_placeOfMark_7 : decode cX2_placeOfMark 7 = .ok (.imul, 1) := by decide +kernel
theorem dX2_placeOfMark_8 : decode cX2_placeOfMark 8 = .ok (.iload_n 1, 1) := by decide +kernel
theorem dX2_placeOfMark_9 : decode cX2_placeOfMark 9 = .ok (.iadd, 1) := by decide +kernel
theorem dX2_placeOfMark_10 : decode cX2_placeOfMark 10 = .ok (.iconst 1, 1) := by decide +kernel
theorem dX2_placeOfMark_11 : decode cX2_placeOfMark 11 = .ok (.iadd, 1) := by decide +kernel
theorem dX2_placeOfMark_12 : decode cX2_placeOfMark 12 = .ok (.imul, 1) := by decide +kernel
theorem dX2_placeOfMark_13 : decode cX2_placeOfMark 13 = .ok (.ldc 40, 2) := by decide +kernel
theorem dX2_placeOfMark_15 : decode cX2_placeOfMark 15 = .ok (.iand, 1) := by decide +kernel
theorem dX2_placeOfMark_16 : decode cX2_placeOfMark 16 = .ok (.ireturn, 1) := by decide +kernel
theorem dX2_wayFrom_0 : decode cX2_wayFrom 0 = .ok (.ldc 40, 2) := by decide +kernel
theorem dX2_wayFrom_2 : decode cX2_wayFrom 2 = .ok (.istore_n 2, 1) := by decide +kernel
theorem dX2_wayFrom_3 : decode cX2_wayFrom 3 = .ok (.iconst 0, 1) := by decide +kernel
theorem dX2_wayFrom_4 : decode cX2_wayFrom 4 = .ok (.istore_n 3, 1) := by decide +kernel
theorem dX2_wayFrom_5 : decode cX2_wayFrom 5 = .ok (.iload_n 3, 1) := by decide +kernel
theorem dX2_wayFrom_6 : decode cX2_wayFrom 6 = .ok (.iconst 4, 1) := by decide +kernel
theorem dX2_wayFrom_7 : decode cX2_wayFrom 7 = .ok (.if_icmp .ge 24, 3) := by decide +kernel
theorem dX2_wayFrom_10 : decode cX2_wayFrom 10 = .ok (.iload_n 2, 1) := by decide +kernel
theorem dX2_wayFrom_11 : decode cX2_wayFrom 11 = .ok (.aload_n 0, 1) := by decide +kernel
theorem dX2_wayFrom_12 : decode cX2_wayFrom 12 = .ok (.iload_n 3, 1) := by decide +kernel
theorem dX2_wayFrom_13 : decode cX2_wayFrom 13 = .ok (.invokevirtual 41, 3) := by decide +kernel
theorem dX2_wayFrom_16 : decode cX2_wayFrom 16 = .ok (.iload_n 1, 1) := by decide +kernel
theorem dX2_wayFrom_17 : decode cX2_wayFrom 17 = .ok (.isub, 1) := by decide +kernel
theorem dX2_wayFrom_18 : decode cX2_wayFrom 18 = .ok (.ldc 40, 2) := by decide +kernel
theorem dX2_wayFrom_20 : decode cX2_wayFrom 20 = .ok (.iand, 1) := by decide +kernel
theorem dX2_wayFrom_21 : decode cX2_wayFrom 21 = .ok (.invokestatic 45, 3) := by decide +kernel
theorem dX2_wayFrom_24 : decode cX2_wayFrom 24 = .ok (.istore_n 2, 1) := by decide +kernel
theorem dX2_wayFrom_25 : decode cX2_wayFrom 25 = .ok (.iinc 3 1, 3) := by decide +kernel
theorem dX2_wayFrom_28 : decode cX2_wayFrom 28 = .ok (.goto (-23), 3) := by decide +kernel
theorem dX2_wayFrom_31 : decode cX2_wayFrom 31 = .ok (.iload_n 2, 1) := by decide +kernel
theorem dX2_wayFrom_32 : decode cX2_wayFrom 32 = .ok (.ireturn, 1) := by decide +kernel
theorem dX2_takeAsking_0 : decode cX2_takeAsking 0 = .ok (.aload_n 0, 1) := by decide +kernel
theorem dX2_takeAsking_1 : decode cX2_takeAsking 1 = .ok (.dup, 1) := by decide +kernel
theorem dX2_takeAsking_2 : decode cX2_takeAsking 2 = .ok (.getfield 51, 3) := by decide +kernel
theorem dX2_takeAsking_5 : decode cX2_takeAsking 5 = .ok (.iconst 1, 1) := by decide +kernel
theorem dX2_takeAsking_6 : decode cX2_takeAsking 6 = .ok (.iadd, 1) := by decide +kernel
theorem dX2_takeAsking_7 : decode cX2_takeAsking 7 = .ok (.putfield 51, 3) := by decide +kernel
theorem dX2_takeAsking_10 : decode cX2_takeAsking 10 = .ok (.aload_n 0, 1) := by decide +kernel
theorem dX2_takeAsking_11 : decode cX2_takeAsking 11 = .ok (.dup, 1) := by decide +kernel
theorem dX2_takeAsking_12 : decode cX2_takeAsking 12 = .ok (.getfield 36, 3) := by decide +kernel
theorem dX2_takeAsking_15 : decode cX2_takeAsking 15 = .ok (.iconst 1, 1) := by decide +kernel
theorem dX2_takeAsking_16 : decode cX2_takeAsking 16 = .ok (.iadd, 1) := by decide +kernel
theorem dX2_takeAsking_17 : decode cX2_takeAsking 17 = .ok (.putfield 36, 3) := by decide +kernel
theorem dX2_takeAsking_20 : decode cX2_takeAsking 20 = .ok (.aload_n 0, 1) := by decide +kernel
theorem dX2_takeAsking_21 : decode cX2_takeAsking 21 = .ok (.getfield 54, 3) := by decide +kernel
theorem dX2_takeAsking_24 : decode cX2_takeAsking 24 = .ok (.iconst 1, 1) := by decide +kernel
theorem dX2_takeAsking_25 : decode cX2_takeAsking 25 = .ok (.if_icmp .ne 7, 3) := by decide +kernel
theorem dX2_takeAsking_28 : decode cX2_takeAsking 28 = .ok (.iconst (-1), 1) := by decide +kernel
theorem dX2_takeAsking_29 : decode cX2_takeAsking 29 = .ok (.goto 9, 3) := by decide +kernel
theorem dX2_takeAsking_32 : decode cX2_takeAsking 32 = .ok (.iload_n 1, 1) := by decide +kernel
theorem dX2_takeAsking_33 : decode cX2_takeAsking 33 = .ok (.aload_n 0, 1) := by decide +kernel
theorem dX2_takeAsking_34 : decode cX2_takeAsking 34 = .ok (.getfield 24, 3) := by decide +kernel
theorem dX2_takeAsking_37 : decode cX2_takeAsking 37 = .ok (.iadd, 1) := by decide +kernel
theorem dX2_takeAsking_38 : decode cX2_takeAsking 38 = .ok (.istore_n 2, 1) := by decide +kernel
theorem dX2_takeAsking_39 : decode cX2_takeAsking 39 = .ok (.aload_n 0, 1) := by decide +kernel
theorem dX2_takeAsking_40 : decode cX2_takeAsking 40 = .ok (.getfield 27, 3) := by decide +kernel
theorem dX2_takeAsking_43 : decode cX2_takeAsking 43 = .ok (.ifCond .eq 19, 3) := by decide +kernel
theorem dX2_takeAsking_46 : decode cX2_takeAsking 46 = .ok (.aload_n 0, 1) := by decide +kernel
theorem dX2_takeAsking_47 : decode cX2_takeAsking 47 = .ok (.getfield 51, 3) := by decide +kernel
theorem dX2_takeAsking_50 : decode cX2_takeAsking 50 = .ok (.aload_n 0, 1) := by decide +kernel
theorem dX2_takeAsking_51 : decode cX2_takeAsking 51 = .ok (.getfield 27, 3) := by decide +kernel
theorem dX2_takeAsking_54 : decode cX2_takeAsking 54 = .ok (.irem, 1) := by decide +kernel
theorem dX2_takeAsking_55 : decode cX2_takeAsking 55 = .ok (.ifCond .ne 7, 3) := by decide +kernel
theorem dX2_takeAsking_58 : decode cX2_takeAsking 58 = .ok (.iconst 1, 1) := by decide +kernel
theorem dX2_takeAsking_59 : decode cX2_takeAsking 59 = .ok (.goto 4, 3) := by decide +kernel
theorem dX2_takeAsking_62 : decode cX2_takeAsking 62 = .ok (.iconst 0, 1) := by decide +kernel
theorem dX2_takeAsking_63 : decode cX2_takeAsking 63 = .ok (.istore_n 3, 1) := by decide +kernel
theorem dX2_takeAsking_64 : decode cX2_takeAsking 64 = .ok (.new 57, 3) := by decide +kernel
theorem dX2_takeAsking_67 : decode cX2_takeAsking 67 = .ok (.dup, 1) := by decide +kernel
theorem dX2_takeAsking_68 : decode cX2_takeAsking 68 = .ok (.aload_n 0, 1) := by decide +kernel
theorem dX2_takeAsking_69 : decode cX2_takeAsking 69 = .ok (.iload_n 1, 1) := by decide +kernel
theorem dX2_takeAsking_70 : decode cX2_takeAsking 70 = .ok (.iload_n 2, 1) := by decide +kernel
theorem dX2_takeAsking_71 : decode cX2_takeAsking 71 = .ok (.iload_n 3, 1) := by decide +kernel
theorem dX2_takeAsking_72 : decode cX2_takeAsking 72 = .ok (.invokespecial 59, 3) := by decide +kernel
theorem dX2_takeAsking_75 : decode cX2_takeAsking 75 = .ok (.areturn, 1) := by decide +kernel
theorem dX2_answer_0 : decode cX2_answer 0 = .ok (.aload_n 0, 1) := by decide +kernel
theorem dX2_answer_1 : decode cX2_answer 1 = .ok (.dup, 1) := by decide +kernel
theorem dX2_answer_2 : decode cX2_answer 2 = .ok (.getfield 62, 3) := by decide +kernel
theorem dX2_answer_5 : decode cX2_answer 5 = .ok (.iconst 1, 1) := by decide +kernel
theorem dX2_answer_6 : decode cX2_answer 6 = .ok (.iadd, 1) := by decide +kernel
theorem dX2_answer_7 : decode cX2_answer 7 = .ok (.putfield 62, 3) := by decide +kernel
theorem dX2_answer_10 : decode cX2_answer 10 = .ok (.aload_n 0, 1) := by decide +kernel
theorem dX2_answer_11 : decode cX2_answer 11 = .ok (.iconst 0, 1) := by decide +kernel
theorem dX2_answer_12 : decode cX2_answer 12 = .ok (.putfield 65, 3) := by decide +kernel
theorem dX2_answer_15 : decode cX2_answer 15 = .ok (.aload_n 0, 1) := by decide +kernel
theorem dX2_answer_16 : decode cX2_answer 16 = .ok (.bipush 10, 2) := by decide +kernel
theorem dX2_answer_18 : decode cX2_answer 18 = .ok (.putfield 33, 3) := by decide +kernel
theorem dX2_answer_21 : decode cX2_answer 21 = .ok (.aload_n 0, 1) := by decide +kernel
theorem dX2_answer_22 : decode cX2_answer 22 = .ok (.getfield 30, 3) := by decide +kernel
theorem dX2_answer_25 : decode cX2_answer 25 = .ok (.iconst 2, 1) := by decide +kernel
theorem dX2_answer_26 : decode cX2_answer 26 = .ok (.if_icmp .ne 8, 3) := by decide +kernel
theorem dX2_answer_29 : decode cX2_answer 29 = .ok (.aload_n 0, 1) := by decide +kernel
theorem dX2_answer_30 : decode cX2_answer 30 = .ok (.iconst 0, 1) := by decide +kernel
theorem dX2_answer_31 : decode cX2_answer 31 = .ok (.putfield 30, 3) := by decide +kernel
theorem dX2_answer_34 : decode cX2_answer 34 = .ok (.return_, 1) := by decide +kernel
theorem dX2_goOut_0 : decode cX2_goOut 0 = .ok (.aload_n 0, 1) := by decide +kernel
theorem dX2_goOut_1 : decode cX2_goOut 1 = .ok (.iconst 1, 1) := by decide +kernel
theorem dX2_goOut_2 : decode cX2_goOut 2 = .ok (.putfield 30, 3) := by decide +kernel
theorem dX2_goOut_5 : decode cX2_goOut 5 = .ok (.aload_n 0, 1) := by decide +kernel
theorem dX2_goOut_6 : decode cX2_goOut 6 = .ok (.iload_n 1, 1) := by decide +kernel
theorem dX2_goOut_7 : decode cX2_goOut 7 = .ok (.aload_n 0, 1) := by decide +kernel
theorem dX2_goOut_8 : decode cX2_goOut 8 = .ok (.getfield 33, 3) := by decide +kernel
theorem dX2_goOut_11 : decode cX2_goOut 11 = .ok (.iadd, 1) := by decide +kernel
theorem dX2_goOut_12 : decode cX2_goOut 12 = .ok (.putfield 68, 3) := by decide +kernel
theorem dX2_goOut_15 : decode cX2_goOut 15 = .ok (.aload_n 0, 1) := by decide +kernel
theorem dX2_goOut_16 : decode cX2_goOut 16 = .ok (.sipush 320, 3) := by decide +kernel
theorem dX2_goOut_19 : decode cX2_goOut 19 = .ok (.iconst 2, 1) := by decide +kernel
theorem dX2_goOut_20 : decode cX2_goOut 20 = .ok (.aload_n 0, 1) := by decide +kernel
theorem dX2_goOut_21 : decode cX2_goOut 21 = .ok (.getfield 33, 3) := by decide +kernel
theorem dX2_goOut_24 : decode cX2_goOut 24 = .ok (.imul, 1) := by decide +kernel
theorem dX2_goOut_25 : decode cX2_goOut 25 = .ok (.invokestatic 45, 3) := by decide +kernel
theorem dX2_goOut_28 : decode cX2_goOut 28 = .ok (.putfield 33, 3) := by decide +kernel
theorem dX2_goOut_31 : decode cX2_goOut 31 = .ok (.aload_n 0, 1) := by decide +kernel
theorem dX2_goOut_32 : decode cX2_goOut 32 = .ok (.dup, 1) := by decide +kernel
theorem dX2_goOut_33 : decode cX2_goOut 33 = .ok (.getfield 71, 3) := by decide +kernel
theorem dX2_goOut_36 : decode cX2_goOut 36 = .ok (.iconst 1, 1) := by decide +kernel
theorem dX2_goOut_37 : decode cX2_goOut 37 = .ok (.iadd, 1) := by decide +kernel
theorem dX2_goOut_38 : decode cX2_goOut 38 = .ok (.putfield 71, 3) := by decide +kernel
theorem dX2_goOut_41 : decode cX2_goOut 41 = .ok (.aload_n 0, 1) := by decide +kernel
theorem dX2_goOut_42 : decode cX2_goOut 42 = .ok (.iconst 0, 1) := by decide +kernel
theorem dX2_goOut_43 : decode cX2_goOut 43 = .ok (.putfield 65, 3) := by decide +kernel
theorem dX2_goOut_46 : decode cX2_goOut 46 = .ok (.return_, 1) := by decide +kernel
theorem dX2_change_0 : decode cX2_change 0 = .ok (.aload_n 0, 1) := by decide +kernel
theorem dX2_change_1 : decode cX2_change 1 = .ok (.iload_n 1, 1) := by decide +kernel
theorem dX2_change_2 : decode cX2_change 2 = .ok (.ifCond .ne 8, 3) := by decide +kernel
theorem dX2_change_5 : decode cX2_change 5 = .ok (.bipush 10, 2) := by decide +kernel
theorem dX2_change_7 : decode cX2_change 7 = .ok (.goto 7, 3) := by decide +kernel
theorem dX2_change_10 : decode cX2_change 10 = .ok (.iload_n 1, 1) := by decide +kernel
theorem dX2_change_11 : decode cX2_change 11 = .ok (.bipush 11, 2) := by decide +kernel
theorem dX2_change_13 : decode cX2_change 13 = .ok (.iadd, 1) := by decide +kernel
theorem dX2_change_14 : decode cX2_change 14 = .ok (.invokevirtual 74, 3) := by decide +kernel
theorem dX2_change_17 : decode cX2_change 17 = .ok (.istore_n 3, 1) := by decide +kernel
theorem dX2_change_18 : decode cX2_change 18 = .ok (.iload_n 1, 1) := by decide +kernel
theorem dX2_change_19 : decode cX2_change 19 = .ok (.tableswitch 61 0 3 #[29, 37, 45, 53], 29) := by decide +kernel
theorem dX2_change_48 : decode cX2_change 48 = .ok (.aload_n 0, 1) := by decide +kernel
theorem dX2_change_49 : decode cX2_change 49 = .ok (.iload_n 2, 1) := by decide +kernel
theorem dX2_change_50 : decode cX2_change 50 = .ok (.putfield 15, 3) := by decide +kernel
theorem dX2_change_53 : decode cX2_change 53 = .ok (.goto 32, 3) := by decide +kernel
theorem dX2_change_56 : decode cX2_change 56 = .ok (.aload_n 0, 1) := by decide +kernel
theorem dX2_change_57 : decode cX2_change 57 = .ok (.iload_n 2, 1) := by decide +kernel
theorem dX2_change_58 : decode cX2_change 58 = .ok (.putfield 21, 3) := by decide +kernel
theorem dX2_change_61 : decode cX2_change 61 = .ok (.goto 24, 3) := by decide +kernel
theorem dX2_change_64 : decode cX2_change 64 = .ok (.aload_n 0, 1) := by decide +kernel
theorem dX2_change_65 : decode cX2_change 65 = .ok (.iload_n 2, 1) := by decide +kernel
theorem dX2_change_66 : decode cX2_change 66 = .ok (.putfield 24, 3) := by decide +kernel
theorem dX2_change_69 : decode cX2_change 69 = .ok (.goto 16, 3) := by decide +kernel
theorem dX2_change_72 : decode cX2_change 72 = .ok (.aload_n 0, 1) := by decide +kernel
theorem dX2_change_73 : decode cX2_change 73 = .ok (.iload_n 2, 1) := by decide +kernel
theorem dX2_change_74 : decode cX2_change 74 = .ok (.putfield 27, 3) := by decide +kernel
theorem dX2_change_77 : decode cX2_change 77 = .ok (.goto 8, 3) := by decide +kernel
theorem dX2_change_80 : decode cX2_change 80 = .ok (.aload_n 0, 1) := by decide +kernel
theorem dX2_change_81 : decode cX2_change 81 = .ok (.iload_n 2, 1) := by decide +kernel
theorem dX2_change_82 : decode cX2_change 82 = .ok (.putfield 54, 3) := by decide +kernel
theorem dX2_change_85 : decode cX2_change 85 = .ok (.iload_n 3, 1) := by decide +kernel
theorem dX2_change_86 : decode cX2_change 86 = .ok (.ireturn, 1) := by decide +kernel
theorem dX2_tell_0 : decode cX2_tell 0 = .ok (.iload_n 1, 1) := by decide +kernel
theorem dX2_tell_1 : decode cX2_tell 1 = .ok (.tableswitch 166 0 14 #[75, 80, 85, 90, 95, 100, 105, 123, 128, 133, 141, 146, 151, 156, 161], 75) := by decide +kernel
theorem dX2_tell_76 : decode cX2_tell 76 = .ok (.aload_n 0, 1) := by decide +kernel
theorem dX2_tell_77 : decode cX2_tell 77 = .ok (.getfield 30, 3) := by decide +kernel
theorem dX2_tell_80 : decode cX2_tell 80 = .ok (.ireturn, 1) := by decide +kernel
theorem dX2_tell_81 : decode cX2_tell 81 = .ok (.aload_n 0, 1) := by decide +kernel
theorem dX2_tell_82 : decode cX2_tell 82 = .ok (.getfield 36, 3) := by decide +kernel
theorem dX2_tell_85 : decode cX2_tell 85 = .ok (.ireturn, 1) := by decide +kernel
theorem dX2_tell_86 : decode cX2_tell 86 = .ok (.aload_n 0, 1) := by decide +kernel
theorem dX2_tell_87 : decode cX2_tell 87 = .ok (.getfield 51, 3) := by decide +kernel
theorem dX2_tell_90 : decode cX2_tell 90 = .ok (.ireturn, 1) := by decide +kernel
theorem dX2_tell_91 : decode cX2_tell 91 = .ok (.aload_n 0, 1) := by decide +kernel
theorem dX2_tell_92 : decode cX2_tell 92 = .ok (.getfield 62, 3) := by decide +kernel
theorem dX2_tell_95 : decode cX2_tell 95 = .ok (.ireturn, 1) := by decide +kernel
theorem dX2_tell_96 : decode cX2_tell 96 = .ok (.aload_n 0, 1) := by decide +kernel
theorem dX2_tell_97 : decode cX2_tell 97 = .ok (.getfield 77, 3) := by decide +kernel
theorem dX2_tell_100 : decode cX2_tell 100 = .ok (.ireturn, 1) := by decide +kernel
theorem dX2_tell_101 : decode cX2_tell 101 = .ok (.aload_n 0, 1) := by decide +kernel
theorem dX2_tell_102 : decode cX2_tell 102 = .ok (.getfield 65, 3) := by decide +kernel
theorem dX2_tell_105 : decode cX2_tell 105 = .ok (.ireturn, 1) := by decide +kernel
theorem dX2_tell_106 : decode cX2_tell 106 = .ok (.aload_n 0, 1) := by decide +kernel
theorem dX2_tell_107 : decode cX2_tell 107 = .ok (.getfield 30, 3) := by decide +kernel
theorem dX2_tell_110 : decode cX2_tell 110 = .ok (.iconst 1, 1) := by decide +kernel
theorem dX2_tell_111 : decode cX2_tell 111 = .ok (.if_icmp .ne 10, 3) := by decide +kernel
theorem dX2_tell_114 : decode cX2_tell 114 = .ok (.aload_n 0, 1) := by decide +kernel
theorem dX2_tell_115 : decode cX2_tell 115 = .ok (.getfield 68, 3) := by decide +kernel
theorem dX2_tell_118 : decode cX2_tell 118 = .ok (.goto 5, 3) := by decide +kernel
theorem dX2_tell_121 : decode cX2_tell 121 = .ok (.bipush (-9), 2) := by decide +kernel
theorem dX2_tell_123 : decode cX2_tell 123 = .ok (.ireturn, 1) := by decide +kernel
theorem dX2_tell_124 : decode cX2_tell 124 = .ok (.aload_n 0, 1) := by decide +kernel
theorem dX2_tell_125 : decode cX2_tell 125 = .ok (.getfield 33, 3) := by decide +kernel
theorem dX2_tell_128 : decode cX2_tell 128 = .ok (.ireturn, 1) := by decide +kernel
theorem dX2_tell_129 : decode cX2_tell 129 = .ok (.aload_n 0, 1) := by decide +kernel
theorem dX2_tell_130 : decode cX2_tell 130 = .ok (.getfield 71, 3) := by decide +kernel
theorem dX2_tell_133 : decode cX2_tell 133 = .ok (.ireturn, 1) := by decide +kernel
theorem dX2_tell_134 : decode cX2_tell 134 = .ok (.aload_n 0, 1) := by decide +kernel
theorem dX2_tell_135 : decode cX2_tell 135 = .ok (.getfield 80, 3) := by decide +kernel
theorem dX2_tell_138 : decode cX2_tell 138 = .ok (.ldc 83, 2) := by decide +kernel
theorem dX2_tell_140 : decode cX2_tell 140 = .ok (.iadd, 1) := by decide +kernel
theorem dX2_tell_141 : decode cX2_tell 141 = .ok (.ireturn, 1) := by decide +kernel
theorem dX2_tell_142 : decode cX2_tell 142 = .ok (.aload_n 0, 1) := by decide +kernel
theorem dX2_tell_143 : decode cX2_tell 143 = .ok (.getfield 15, 3) := by decide +kernel
theorem dX2_tell_146 : decode cX2_tell 146 = .ok (.ireturn, 1) := by decide +kernel
theorem dX2_tell_147 : decode cX2_tell 147 = .ok (.aload_n 0, 1) := by decide +kernel
theorem dX2_tell_148 : decode cX2_tell 148 = .ok (.getfield 18, 3) := by decide +kernel
theorem dX2_tell_151 : decode cX2_tell 151 = .ok (.ireturn, 1) := by decide +kernel
theorem dX2_tell_152 : decode cX2_tell 152 = .ok (.aload_n 0, 1) := by decide +kernel
theorem dX2_tell_153 : decode cX2_tell 153 = .ok (.getfield 21, 3) := by decide +kernel
theorem dX2_tell_156 : decode cX2_tell 156 = .ok (.ireturn, 1) := by decide +kernel
theorem dX2_tell_157 : decode cX2_tell 157 = .ok (.aload_n 0, 1) := by decide +kernel
theorem dX2_tell_158 : decode cX2_tell 158 = .ok (.getfield 24, 3) := by decide +kernel
theorem dX2_tell_161 : decode cX2_tell 161 = .ok (.ireturn, 1) := by decide +kernel
theorem dX2_tell_162 : decode cX2_tell 162 = .ok (.aload_n 0, 1) := by decide +kernel
theorem dX2_tell_163 : decode cX2_tell 163 = .ok (.getfield 27, 3) := by decide +kernel
theorem dX2_tell_166 : decode cX2_tell 166 = .ok (.ireturn, 1) := by decide +kernel
theorem dX2_tell_167 : decode cX2_tell 167 = .ok (.aload_n 0, 1) := by decide +kernel
theorem dX2_tell_168 : decode cX2_tell 168 = .ok (.getfield 54, 3) := by decide +kernel
theorem dX2_tell_171 : decode cX2_tell 171 = .ok (.ireturn, 1) := by decide +kernel
end
section
theorem dX3_init_0 : decode cX3_init 0 = .ok (.aload_n 0, 1) := by decide +kernel
theorem dX3_init_1 : decode cX3_init 1 = .ok (.invokespecial 1, 3) := by decide +kernel
theorem dX3_init_4 : decode cX3_init 4 = .ok (.aload_n 0, 1) := by decide +kernel
theorem dX3_init_5 : decode cX3_init 5 = .ok (.new 7, 3) := by decide +kernel
theorem dX3_init_8 : decode cX3_init 8 = .ok (.dup, 1) := by decide +kernel
theorem dX3_init_9 : decode cX3_init 9 = .ok (.invokespecial 9, 3) := by decide +kernel
theorem dX3_init_12 : decode cX3_init 12 = .ok (.putfield 10, 3) := by decide +kernel
theorem dX3_init_15 : decode cX3_init 15 = .ok (.aload_n 0, 1) := by decide +kernel
theorem dX3_init_16 : decode cX3_init 16 = .ok (.new 7, 3) := by decide +kernel
theorem dX3_init_19 : decode cX3_init 19 = .ok (.dup, 1) := by decide +kernel
theorem dX3_init_20 : decode cX3_init 20 = .ok (.invokespecial 9, 3) := by decide +kernel
theorem dX3_init_23 : decode cX3_init 23 = .ok (.putfield 16, 3) := by decide +kernel
theorem dX3_init_26 : decode cX3_init 26 = .ok (.aload_n 0, 1) := by decide +kernel
theorem dX3_init_27 : decode cX3_init 27 = .ok (.new 7, 3) := by decide +kernel
theorem dX3_init_30 : decode cX3_init 30 = .ok (.dup, 1) := by decide +kernel
theorem dX3_init_31 : decode cX3_init 31 = .ok (.invokespecial 9, 3) := by decide +kernel
theorem dX3_init_34 : decode cX3_init 34 = .ok (.putfield 19, 3) := by decide +kernel
theorem dX3_init_37 : decode cX3_init 37 = .ok (.aload_n 0, 1) := by decide +kernel
theorem dX3_init_38 : decode cX3_init 38 = .ok (.new 7, 3) := by decide +kernel
theorem dX3_init_41 : decode cX3_init 41 = .ok (.dup, 1) := by decide +kernel
theorem dX3_init_42 : decode cX3_init 42 = .ok (.invokespecial 9, 3) := by decide +kernel
theorem dX3_init_45 : decode cX3_init 45 = .ok (.putfield 22, 3) := by decide +kernel
theorem dX3_init_48 : decode cX3_init 48 = .ok (.aload_n 0, 1) := by decide +kernel
theorem dX3_init_49 : decode cX3_init 49 = .ok (.bipush 7, 2) := by decide +kernel
theorem dX3_init_51 : decode cX3_init 51 = .ok (.newarray .int, 2) := by decide +kernel
theorem dX3_init_53 : decode cX3_init 53 = .ok (.putfield 25, 3) := by decide +kernel
theorem dX3_init_56 : decode cX3_init 56 = .ok (.aload_n 0, 1) := by decide +kernel
theorem dX3_init_57 : decode cX3_init 57 = .ok (.iconst 0, 1) := by decide +kernel
theorem dX3_init_58 : decode cX3_init 58 = .ok (.putfield 29, 3) := by decide +kernel
theorem dX3_init_61 : decode cX3_init 61 = .ok (.aload_n 0, 1) := by decide +kernel
theorem dX3_init_62 : decode cX3_init 62 = .ok (.iconst 3, 1) := by decide +kernel
theorem dX3_init_63 : decode cX3_init 63 = .ok (.putfield 33, 3) := by decide +kernel
theorem dX3_init_66 : decode cX3_init 66 = .ok (.aload_n 0, 1) := by decide +kernel
theorem dX3_init_67 : decode cX3_init 67 = .ok (.bipush 20, 2) := by decide +kernel
theorem dX3_init_69 : decode cX3_init 69 = .ok (.putfield 36, 3) := by decide +kernel
theorem dX3_init_72 : decode cX3_init 72 = .ok (.return_, 1) := by decide +kernel
theorem dX3_server_0 : decode cX3_server 0 = .ok (.iload_n 2, 1) := by decide +kernel
theorem dX3_server_1 : decode cX3_server 1 = .ok (.ifCond .lt 8, 3) := by decide +kernel
theorem dX3_server_4 : decode cX3_server 4 = .ok (.iload_n 2, 1) := by decide +kernel
theorem dX3_server_5 : decode cX3_server 5 = .ok (.iconst 4, 1) := by decide +kernel
theorem dX3_server_6 : decode cX3_server 6 = .ok (.if_icmp .lt 9, 3) := by decide +kernel
theorem dX3_server_9 : decode cX3_server 9 = .ok (.aload_n 0, 1) := by decide +kernel
theorem dX3_server_10 : decode cX3_server 10 = .ok (.iconst (-1), 1) := by decide +kernel
theorem dX3_server_11 : decode cX3_server 11 = .ok (.invokevirtual 39, 3) := by decide +kernel
theorem dX3_server_14 : decode cX3_server 14 = .ok (.ireturn, 1) := by decide +kernel
theorem dX3_server_15 : decode cX3_server 15 = .ok (.iload_n 1, 1) := by decide +kernel
theorem dX3_server_16 : decode cX3_server 16 = .ok (.iconst 1, 1) := by decide +kernel
theorem dX3_server_17 : decode cX3_server 17 = .ok (.if_icmp .lt 19, 3) := by decide +kernel
theorem dX3_server_20 : decode cX3_server 20 = .ok (.iload_n 3, 1) := by decide +kernel
theorem dX3_server_21 : decode cX3_server 21 = .ok (.iconst 1, 1) := by decide +kernel
theorem dX3_server_22 : decode cX3_server 22 = .ok (.if_icmp .lt 14, 3) := by decide +kernel
theorem dX3_server_25 : decode cX3_server 25 = .ok (.iload 4, 2) := by decide +kernel
theorem dX3_server_27 : decode cX3_server 27 = .ok (.iconst 1, 1) := by decide +kernel
theorem dX3_server_28 : decode cX3_server 28 = .ok (.if_icmp .lt 8, 3) := by decide +kernel
theorem dX3_server_31 : decode cX3_server 31 = .ok (.iload 5, 2) := by decide +kernel
theorem dX3_server_33 : decode cX3_server 33 = .ok (.ifCond .ge 10, 3) := by decide +kernel
theorem dX3_server_36 : decode cX3_server 36 = .ok (.aload_n 0, 1) := by decide +kernel
theorem dX3_server_37 : decode cX3_server 37 = .ok (.bipush (-4), 2) := by decide +kernel
theorem dX3_server_39 : decode cX3_server 39 = .ok (.invokevirtual 39, 3) := by decide +kernel
theorem dX3_server_42 : decode cX3_server 42 = .ok (.ireturn, 1) := by decide +kernel
theorem dX3_server_43 : decode cX3_server 43 = .ok (.iload_n 1, 1) := by decide +kernel
theorem dX3_server_44 : decode cX3_server 44 = .ok (.bipush 100, 2) := by decide +kernel
theorem dX3_server_46 : decode cX3_server 46 = .ok (.if_icmp .gt 24, 3) := by decide +kernel
theorem dX3_server_49 : decode cX3_server 49 = .ok (.iload_n 3, 1) := by decide +kernel
theorem dX3_server_50 : decode cX3_server 50 = .ok (.bipush 20, 2) := by decide +kernel
theorem dX3_server_52 : decode cX3_server 52 = .ok (.if_icmp .gt 18, 3) := by decide +kernel
theorem dX3_server_55 : decode cX3_server 55 = .ok (.iload 4, 2) := by decide +kernel
theorem dX3_server_57 : decode cX3_server 57 = .ok (.sipush 200, 3) := by decide +kernel
theorem dX3_server_60 : decode cX3_server 60 = .ok (.if_icmp .gt 10, 3) := by decide +kernel
theorem dX3_server_63 : decode cX3_server 63 = .ok (.iload 5, 2) := by decide +kernel
theorem dX3_server_65 : decode cX3_server 65 = .ok (.bipush 20, 2) := by decide +kernel
theorem dX3_server_67 : decode cX3_server 67 = .ok (.if_icmp .le 10, 3) := by decide +kernel
theorem dX3_server_70 : decode cX3_server 70 = .ok (.aload_n 0, 1) := by decide +kernel
theorem dX3_server_71 : decode cX3_server 71 = .ok (.bipush (-6), 2) := by decide +kernel
theorem dX3_server_73 : decode cX3_server 73 = .ok (.invokevirtual 39, 3) := by decide +kernel
theorem dX3_server_76 : decode cX3_server 76 = .ok (.ireturn, 1) := by decide +kernel
theorem dX3_server_77 : decode cX3_server 77 = .ok (.aload_n 0, 1) := by decide +kernel
theorem dX3_server_78 : decode cX3_server 78 = .ok (.getfield 10, 3) := by decide +kernel
theorem dX3_server_81 : decode cX3_server 81 = .ok (.invokevirtual 43, 3) := by decide +kernel
theorem dX3_server_84 : decode cX3_server 84 = .ok (.bipush 8, 2) := by decide +kernel
theorem dX3_server_86 : decode cX3_server 86 = .ok (.if_icmp .lt 10, 3) := by decide +kernel
theorem dX3_server_89 : decode cX3_server 89 = .ok (.aload_n 0, 1) := by decide +kernel
theorem dX3_server_90 : decode cX3_server 90 = .ok (.bipush (-6), 2) := by decide +kernel
theorem dX3_server_92 : decode cX3_server 92 = .ok (.invokevirtual 39, 3) := by decide +kernel
theorem dX3_server_95 : decode cX3_server 95 = .ok (.ireturn, 1) := by decide +kernel
theorem dX3_server_96 : decode cX3_server 96 = .ok (.new 47, 3) := by decide +kernel
theorem dX3_server_99 : decode cX3_server 99 = .ok (.dup, 1) := by decide +kernel
theorem dX3_server_100 : decode cX3_server 100 = .ok (.aload_n 0, 1) := by decide +kernel
theorem dX3_server_101 : decode cX3_server 101 = .ok (.getfield 10, 3) := by decide +kernel
theorem dX3_server_104 : decode cX3_server 104 = .ok (.invokevirtual 43, 3) := by decide +kernel
theorem dX3_server_107 : decode cX3_server 107 = .ok (.iload_n 1, 1) := by decide +kernel
theorem dX3_server_108 : decode cX3_server 108 = .ok (.iload_n 2, 1) := by decide +kernel
theorem dX3_server_109 : decode cX3_server 109 = .ok (.iload_n 3, 1) := by decide +kernel
theorem dX3_server_110 : decode cX3_server 110 = .ok (.iload 4, 2) := by decide +kernel
theorem dX3_server_112 : decode cX3_server 112 = .ok (.iload 5, 2) := by decide +kernel
theorem dX3_server_114 : decode cX3_server 114 = .ok (.invokespecial 49, 3) := by decide +kernel
theorem dX3_server_117 : decode cX3_server 117 = .ok (.astore 6, 2) := by decide +kernel
theorem dX3_server_119 : decode cX3_server 119 = .ok (.aload_n 0, 1) := by decide +kernel
theorem dX3_server_120 : decode cX3_server 120 = .ok (.getfield 10, 3) := by decide +kernel
theorem dX3_server_123 : decode cX3_server 123 = .ok (.aload 6, 2) := by decide +kernel
theorem dX3_server_125 : decode cX3_server 125 = .ok (.invokevirtual 52, 3) := by decide +kernel
theorem dX3_server_128 : decode cX3_server 128 = .ok (.pop, 1) := by decide +kernel
theorem dX3_server_129 : decode cX3_server 129 = .ok (.aload 6, 2) := by decide +kernel
theorem dX3_server_131 : decode cX3_server 131 = .ok (.getfield 56, 3) := by decide +kernel
theorem dX3_server_134 : decode cX3_server 134 = .ok (.ireturn, 1) := by decide +kernel
theorem dX3_set_0 : decode cX3_set 0 = .ok (.aload_n 0, 1) := by decide +kernel
theorem dX3_set_1 : decode cX3_set 1 = .ok (.iload_n 1, 1) := by decide +kernel
theorem dX3_set_2 : decode cX3_set 2 = .ok (.invokevirtual 59, 3) := by decide +kernel
theorem dX3_set_5 : decode cX3_set 5 = .ok (.astore 4, 2) := by decide +kernel
theorem dX3_set_7 : decode cX3_set 7 = .ok (.aload 4, 2) := by decide +kernel
theorem dX3_set_9 : decode cX3_set 9 = .ok (.ifnonnull 9, 3) := by decide +kernel
theorem dX3_set_12 : decode cX3_set 12 = .ok (.aload_n 0, 1) := by decide +kernel
theorem dX3_set_13 : decode cX3_set 13 = .ok (.iconst (-1), 1) := by decide +kernel
theorem dX3_set_14 : decode cX3_set 14 = .ok (.invokevirtual 39, 3) := by decide +kernel
theorem dX3_set_17 : decode cX3_set 17 = .ok (.ireturn, 1) := by decide +kernel
theorem dX3_set_18 : decode cX3_set 18 = .ok (.iload_n 2, 1) := by decide +kernel
theorem dX3_set_19 : decode cX3_set 19 = .ok (.ifCond .lt 8, 3) := by decide +kernel
theorem dX3_set_22 : decode cX3_set 22 = .ok (.iload_n 2, 1) := by decide +kernel
theorem dX3_set_23 : decode cX3_set 23 = .ok (.iconst 4, 1) := by decide +kernel
theorem dX3_set_24 : decode cX3_set 24 = .ok (.if_icmp .le 10, 3) := by decide +kernel
theorem dX3_set_27 : decode cX3_set 27 = .ok (.aload_n 0, 1) := by decide +kernel
theorem dX3_set_28 : decode cX3_set 28 = .ok (.bipush (-2), 2) := by decide +kernel
theorem dX3_set_30 : decode cX3_set 30 = .ok (.invokevirtual 39, 3) := by decide +kernel
theorem dX3_set_33 : decode cX3_set 33 = .ok (.ireturn, 1) := by decide +kernel
theorem dX3_set_34 : decode cX3_set 34 = .ok (.aload 4, 2) := by decide +kernel
theorem dX3_set_36 : decode cX3_set 36 = .ok (.getfield 63, 3) := by decide +kernel
theorem dX3_set_39 : decode cX3_set 39 = .ok (.iconst 4, 1) := by decide +kernel
theorem dX3_set_40 : decode cX3_set 40 = .ok (.if_icmp .ne 10, 3) := by decide +kernel
theorem dX3_set_43 : decode cX3_set 43 = .ok (.aload_n 0, 1) := by decide +kernel
theorem dX3_set_44 : decode cX3_set 44 = .ok (.bipush (-3), 2) := by decide +kernel
theorem dX3_set_46 : decode cX3_set 46 = .ok (.invokevirtual 39, 3) := by decide +kernel
theorem dX3_set_49 : decode cX3_set 49 = .ok (.ireturn, 1) := by decide +kernel
theorem dX3_set_50 : decode cX3_set 50 = .ok (.iload_n 3, 1) := by decide +kernel
theorem dX3_set_51 : decode cX3_set 51 = .ok (.iload_n 2, 1) := by decide +kernel
theorem dX3_set_52 : decode cX3_set 52 = .ok (.invokestatic 66, 3) := by decide +kernel
theorem dX3_set_55 : decode cX3_set 55 = .ok (.iload_n 2, 1) := by decide +kernel
theorem dX3_set_56 : decode cX3_set 56 = .ok (.invokestatic 69, 3) := by decide +kernel
theorem dX3_set_59 : decode cX3_set 59 = .ok (.invokestatic 72, 3) := by decide +kernel
theorem dX3_set_62 : decode cX3_set 62 = .ok (.istore 5, 2) := by decide +kernel
theorem dX3_set_64 : decode cX3_set 64 = .ok (.iload 5, 2) := by decide +kernel
theorem dX3_set_66 : decode cX3_set 66 = .ok (.ifCond .eq 12, 3) := by decide +kernel
theorem dX3_set_69 : decode cX3_set 69 = .ok (.aload_n 0, 1) := by decide +kernel
theorem dX3_set_70 : decode cX3_set 70 = .ok (.iload 5, 2) := by decide +kernel
theorem dX3_set_72 : decode cX3_set 72 = .ok (.invokevirtual 39, 3) := by decide +kernel
theorem dX3_set_75 : decode cX3_set 75 = .ok (.goto 10, 3) := by decide +kernel
theorem dX3_set_78 : decode cX3_set 78 = .ok (.aload 4, 2) := by decide +kernel
theorem dX3_set_80 : decode cX3_set 80 = .ok (.iload_n 2, 1) := by decide +kernel
theorem dX3_set_81 : decode cX3_set 81 = .ok (.iload_n 3, 1) := by decide +kernel
theorem dX3_set_82 : decode cX3_set 82 = .ok (.invokevirtual 76, 3) := by decide +kernel
theorem dX3_set_85 : decode cX3_set 85 = .ok (.ireturn, 1) := by decide +kernel
theorem dX3_drain_0 : decode cX3_drain 0 = .ok (.aload_n 0, 1) := by decide +kernel
theorem dX3_drain_1 : decode cX3_drain 1 = .ok (.iload_n 1, 1) := by decide +kernel
theorem dX3_drain_2 : decode cX3_drain 2 = .ok (.invokevirtual 59, 3) := by decide +kernel
theorem dX3_drain_5 : decode cX3_drain 5 = .ok (.astore_n 2, 1) := by decide +kernel
theorem dX3_drain_6 : decode cX3_drain 6 = .ok (.aload_n 2, 1) := by decide +kernel
theorem dX3_drain_7 : decode cX3_drain 7 = .ok (.ifnonnull 9, 3) := by decide +kernel
theorem dX3_drain_10 : decode cX3_drain 10 = .ok (.aload_n 0, 1) := by decide +kernel
theorem dX3_drain_11 : decode cX3_drain 11 = .ok (.iconst (-1), 1) := by decide +kernel
theorem dX3_drain_12 : decode cX3_drain 12 = .ok (.invokevirtual 39, 3) := by decide +kernel
theorem dX3_drain_15 : decode cX3_drain 15 = .ok (.ireturn, 1) := by decide +kernel
theorem dX3_drain_16 : decode cX3_drain 16 = .ok (.aload_n 2, 1) := by decide +kernel
theorem dX3_drain_17 : decode cX3_drain 17 = .ok (.getfield 63, 3) := by decide +kernel
theorem dX3_drain_20 : decode cX3_drain 20 = .ok (.iconst 3, 1) := by decide +kernel
theorem dX3_drain_21 : decode cX3_drain 21 = .ok (.if_icmp .eq 11, 3) := by decide +kernel
theorem dX3_drain_24 : decode cX3_drain 24 = .ok (.aload_n 2, 1) := by decide +kernel
theorem dX3_drain_25 : decode cX3_drain 25 = .ok (.getfield 63, 3) := by decide +kernel
theorem dX3_drain_28 : decode cX3_drain 28 = .ok (.iconst 4, 1) := by decide +kernel
theorem dX3_drain_29 : decode cX3_drain 29 = .ok (.if_icmp .ne 10, 3) := by decide +kernel
theorem dX3_drain_32 : decode cX3_drain 32 = .ok (.aload_n 0, 1) := by decide +kernel
theorem dX3_drain_33 : decode cX3_drain 33 = .ok (.bipush (-3), 2) := by decide +kernel
theorem dX3_drain_35 : decode cX3_drain 35 = .ok (.invokevirtual 39, 3) := by decide +kernel
theorem dX3_drain_38 : decode cX3_drain 38 = .ok (.ireturn, 1) := by decide +kernel
theorem dX3_drain_39 : decode cX3_drain 39 = .ok (.aload_n 2, 1) := by decide +kernel
theorem dX3_drain_40 : decode cX3_drain 40 = .ok (.aload_n 2, 1) := by decide +kernel
theorem dX3_drain_41 : decode cX3_drain 41 = .ok (.getfield 80, 3) := by decide +kernel
theorem dX3_drain_44 : decode cX3_drain 44 = .ok (.ifCond .ne 7, 3) := by decide +kernel
theorem dX3_drain_47 : decode cX3_drain 47 = .ok (.iconst 4, 1) := by decide +kernel
theorem dX3_drain_48 : decode cX3_drain 48 = .ok (.goto 4, 3) := by decide +kernel
theorem dX3_drain_51 : decode cX3_drain 51 = .ok (.iconst 3, 1) := by decide +kernel
theorem dX3_drain_52 : decode cX3_drain 52 = .ok (.putfield 63, 3) := by decide +kernel
theorem dX3_drain_55 : decode cX3_drain 55 = .ok (.aload_n 2, 1) := by decide +kernel
theorem dX3_drain_56 : decode cX3_drain 56 = .ok (.getfield 80, 3) := by decide +kernel
theorem dX3_drain_59 : decode cX3_drain 59 = .ok (.ireturn, 1) := by decide +kernel
theorem dX3_back_0 : decode cX3_back 0 = .ok (.aload_n 0, 1) := by decide +kernel
theorem dX3_back_1 : decode cX3_back 1 = .ok (.iload_n 1, 1) := by decide +kernel
theorem dX3_back_2 : decode cX3_back 2 = .ok (.invokevirtual 59, 3) := by decide +kernel
theorem dX3_back_5 : decode cX3_back 5 = .ok (.astore_n 2, 1) := by decide +kernel
theorem dX3_back_6 : decode cX3_back 6 = .ok (.aload_n 2, 1) := by decide +kernel
theorem dX3_back_7 : decode cX3_back 7 = .ok (.ifnonnull 9, 3) := by decide +kernel
theorem dX3_back_10 : decode cX3_back 10 = .ok (.aload_n 0, 1) := by decide +kernel
theorem dX3_back_11 : decode cX3_back 11 = .ok (.iconst (-1), 1) := by decide +kernel
theorem dX3_back_12 : decode cX3_back 12 = .ok (.invokevirtual 39, 3) := by decide +kernel
theorem dX3_back_15 : decode cX3_back 15 = .ok (.ireturn, 1) := by decide +kernel
theorem dX3_back_16 : decode cX3_back 16 = .ok (.aload_n 2, 1) := by decide +kernel
theorem dX3_back_17 : decode cX3_back 17 = .ok (.getfield 63, 3) := by decide +kernel
theorem dX3_back_20 : decode cX3_back 20 = .ok (.iconst 3, 1) := by decide +kernel
theorem dX3_back_21 : decode cX3_back 21 = .ok (.if_icmp .eq 18, 3) := by decide +kernel
theorem dX3_back_24 : decode cX3_back 24 = .ok (.aload_n 2, 1) := by decide +kernel
theorem dX3_back_25 : decode cX3_back 25 = .ok (.getfield 63, 3) := by decide +kernel
theorem dX3_back_28 : decode cX3_back 28 = .ok (.iconst 4, 1) := by decide +kernel
theorem dX3_back_29 : decode cX3_back 29 = .ok (.if_icmp .eq 10, 3) := by decide +kernel
theorem dX3_back_32 : decode cX3_back 32 = .ok (.aload_n 0, 1) := by decide +kernel
theorem dX3_back_33 : decode cX3_back 33 = .ok (.bipush (-3), 2) := by decide +kernel
theorem dX3_back_35 : decode cX3_back 35 = .ok (.invokevirtual 39, 3) := by decide +kernel
theorem dX3_back_38 : decode cX3_back 38 = .ok (.ireturn, 1) := by decide +kernel
theorem dX3_back_39 : decode cX3_back 39 = .ok (.aload_n 2, 1) := by decide +kernel
theorem dX3_back_40 : decode cX3_back 40 = .ok (.iconst 2, 1) := by decide +kernel
theorem dX3_back_41 : decode cX3_back 41 = .ok (.putfield 63, 3) := by decide +kernel
theorem dX3_back_44 : decode cX3_back 44 = .ok (.aload_n 2, 1) := by decide +kernel
theorem dX3_back_45 : decode cX3_back 45 = .ok (.iconst 0, 1) := by decide +kernel
theorem dX3_back_46 : decode cX3_back 46 = .ok (.putfield 83, 3) := by decide +kernel
theorem dX3_back_49 : decode cX3_back 49 = .ok (.aload_n 2, 1) := by decide +kernel
theorem dX3_back_50 : decode cX3_back 50 = .ok (.bipush 10, 2) := by decide +kernel
theorem dX3_back_52 : decode cX3_back 52 = .ok (.putfield 86, 3) := by decide +kernel
theorem dX3_back_55 : decode cX3_back 55 = .ok (.iconst 1, 1) := by decide +kernel
theorem dX3_back_56 : decode cX3_back 56 = .ok (.ireturn, 1) := by decide +kernel
theorem dX3_rule_0 : decode cX3_rule 0 = .ok (.iload_n 1, 1) := by decide +kernel
theorem dX3_rule_1 : decode cX3_rule 1 = .ok (.ifCond .lt 8, 3) := by decide +kernel
theorem dX3_rule_4 : decode cX3_rule 4 = .ok (.iload_n 1, 1) := by decide +kernel
theorem dX3_rule_5 : decode cX3_rule 5 = .ok (.iconst 3, 1) := by decide +kernel
theorem dX3_rule_6 : decode cX3_rule 6 = .ok (.if_icmp .le 9, 3) := by decide +kernel
theorem dX3_rule_9 : decode cX3_rule 9 = .ok (.aload_n 0, 1) := by decide +kernel
theorem dX3_rule_10 : decode cX3_rule 10 = .ok (.iconst (-1), 1) := by decide +kernel
theorem dX3_rule_11 : decode cX3_rule 11 = .ok (.invokevirtual 39, 3) := by decide +kernel
theorem dX3_rule_14 : decode cX3_rule 14 = .ok (.ireturn, 1) := by decide +kernel
theorem dX3_rule_15 : decode cX3_rule 15 = .ok (.aload_n 0, 1) := by decide +kernel
theorem dX3_rule_16 : decode cX3_rule 16 = .ok (.getfield 29, 3) := by decide +kernel
theorem dX3_rule_19 : decode cX3_rule 19 = .ok (.istore_n 2, 1) := by decide +kernel
theorem dX3_rule_20 : decode cX3_rule 20 = .ok (.aload_n 0, 1) := by decide +kernel
theorem dX3_rule_21 : decode cX3_rule 21 = .ok (.iload_n 1, 1) := by decide +kernel
theorem dX3_rule_22 : decode cX3_rule 22 = .ok (.putfield 29, 3) := by decide +kernel
theorem dX3_rule_25 : decode cX3_rule 25 = .ok (.iload_n 2, 1) := by decide +kernel
theorem dX3_rule_26 : decode cX3_rule 26 = .ok (.ireturn, 1) := by decide +kernel
theorem dX3_limit_0 : decode cX3_limit 0 = .ok (.iload_n 1, 1) := by decide +kernel
theorem dX3_limit_1 : decode cX3_limit 1 = .ok (.iconst 1, 1) := by decide +kernel
theorem dX3_limit_2 : decode cX3_limit 2 = .ok (.bipush 10, 2) := by decide +kernel
theorem dX3_limit_4 : decode cX3_limit 4 = .ok (.invokestatic 72, 3) := by decide +kernel
theorem dX3_limit_7 : decode cX3_limit 7 = .ok (.istore_n 2, 1) := by decide +kernel
theorem dX3_limit_8 : decode cX3_limit 8 = .ok (.iload_n 2, 1) := by decide +kernel
theorem dX3_limit_9 : decode cX3_limit 9 = .ok (.ifCond .eq 9, 3) := by decide +kernel
theorem dX3_limit_12 : decode cX3_limit 12 = .ok (.aload_n 0, 1) := by decide +kernel
theorem dX3_limit_13 : decode cX3_limit 13 = .ok (.iload_n 2, 1) := by decide +kernel
theorem dX3_limit_14 : decode cX3_limit 14 = .ok (.invokevirtual 39, 3) := by decide +kernel
theorem dX3_limit_17 : decode cX3_limit 17 = .ok (.ireturn, 1) := by decide +kernel
theorem dX3_limit_18 : decode cX3_limit 18 = .ok (.aload_n 0, 1) := by decide +kernel
theorem dX3_limit_19 : decode cX3_limit 19 = .ok (.getfield 33, 3) := by decide +kernel
theorem dX3_limit_22 : decode cX3_limit 22 = .ok (.istore_n 3, 1) := by decide +kernel
theorem dX3_limit_23 : decode cX3_limit 23 = .ok (.aload_n 0, 1) := by decide +kernel
theorem dX3_limit_24 : decode cX3_limit 24 = .ok (.iload_n 1, 1) := by decide +kernel
theorem dX3_limit_25 : decode cX3_limit 25 = .ok (.putfield 33, 3) := by decide +kernel
theorem dX3_limit_28 : decode cX3_limit 28 = .ok (.iload_n 3, 1) := by decide +kernel
theorem dX3_limit_29 : decode cX3_limit 29 = .ok (.ireturn, 1) := by decide +kernel
theorem dX3_budget_0 : decode cX3_budget 0 = .ok (.iload_n 1, 1) := by decide +kernel
theorem dX3_budget_1 : decode cX3_budget 1 = .ok (.iconst 0, 1) := by decide +kernel
theorem dX3_budget_2 : decode cX3_budget 2 = .ok (.bipush 100, 2) := by decide +kernel
theorem dX3_budget_4 : decode cX3_budget 4 = .ok (.invokestatic 72, 3) := by decide +kernel
theorem dX3_budget_7 : decode cX3_budget 7 = .ok (.istore_n 2, 1) := by decide +kernel
theorem dX3_budget_8 : decode cX3_budget 8 = .ok (.iload_n 2, 1) := by decide +kernel
theorem dX3_budget_9 : decode cX3_budget 9 = .ok (.ifCond .eq 9, 3) := by decide +kernel
theorem dX3_budget_12 : decode cX3_budget 12 = .ok (.aload_n 0, 1) := by decide +kernel
theorem dX3_budget_13 : decode cX3_budget 13 = .ok (.iload_n 2, 1) := by decide +kernel
theorem dX3_budget_14 : decode cX3_budget 14 = .ok (.invokevirtual 39, 3) := by decide +kernel
theorem dX3_budget_17 : decode cX3_budget 17 = .ok (.ireturn, 1) := by decide +kernel
theorem dX3_budget_18 : decode cX3_budget 18 = .ok (.aload_n 0, 1) := by decide +kernel
theorem dX3_budget_19 : decode cX3_budget 19 = .ok (.getfield 36, 3) := by decide +kernel
theorem dX3_budget_22 : decode cX3_budget 22 = .ok (.istore_n 3, 1) := by decide +kernel
theorem dX3_budget_23 : decode cX3_budget 23 = .ok (.aload_n 0, 1) := by decide +kernel
theorem dX3_budget_24 : decode cX3_budget 24 = .ok (.iload_n 1, 1) := by decide +kernel
theorem dX3_budget_25 : decode cX3_budget 25 = .ok (.putfield 36, 3) := by decide +kernel
theorem dX3_budget_28 : decode cX3_budget 28 = .ok (.iload_n 3, 1) := by decide +kernel
theorem dX3_budget_29 : decode cX3_budget 29 = .ok (.ireturn, 1) := by decide +kernel
theorem dX3_hedge_0 : decode cX3_hedge 0 = .ok (.iload_n 1, 1) := by decide +kernel
theorem dX3_hedge_1 : decode cX3_hedge 1 = .ok (.iconst 0, 1) := by decide +kernel
theorem dX3_hedge_2 : decode cX3_hedge 2 = .ok (.sipush 500, 3) := by decide +kernel
theorem dX3_hedge_5 : decode cX3_hedge 5 = .ok (.invokestatic 72, 3) := by decide +kernel
theorem dX3_hedge_8 : decode cX3_hedge 8 = .ok (.istore_n 2, 1) := by decide +kernel
theorem dX3_hedge_9 : decode cX3_hedge 9 = .ok (.iload_n 2, 1) := by decide +kernel
theorem dX3_hedge_10 : decode cX3_hedge 10 = .ok (.ifCond .eq 9, 3) := by decide +kernel
theorem dX3_hedge_13 : decode cX3_hedge 13 = .ok (.aload_n 0, 1) := by decide +kernel
theorem dX3_hedge_14 : decode cX3_hedge 14 = .ok (.iload_n 2, 1) := by decide +kernel
theorem dX3_hedge_15 : decode cX3_hedge 15 = .ok (.invokevirtual 39, 3) := by decide +kernel
theorem dX3_hedge_18 : decode cX3_hedge 18 = .ok (.ireturn, 1) := by decide +kernel
theorem dX3_hedge_19 : decode cX3_hedge 19 = .ok (.aload_n 0, 1) := by decide +kernel
theorem dX3_hedge_20 : decode cX3_hedge 20 = .ok (.getfield 89, 3) := by decide +kernel
theorem dX3_hedge_23 : decode cX3_hedge 23 = .ok (.istore_n 3, 1) := by decide +kernel
theorem dX3_hedge_24 : decode cX3_hedge 24 = .ok (.aload_n 0, 1) := by decide +kernel
theorem dX3_hedge_25 : decode cX3_hedge 25 = .ok (.iload_n 1, 1) := by decide +kernel
theorem dX3_hedge_26 : decode cX3_hedge 26 = .ok (.putfield 89, 3) := by decide +kernel
theorem dX3_hedge_29 : decode cX3_hedge 29 = .ok (.iload_n 3, 1) := by decide +kernel
theorem dX3_hedge_30 : decode cX3_hedge 30 = .ok (.ireturn, 1) := by decide +kernel
theorem dX3_call_0 : decode cX3_call 0 = .ok (.iload_n 1, 1) := by decide +kernel
theorem dX3_call_1 : decode cX3_call 1 = .ok (.ifCond .lt 12, 3) := by decide +kernel
theorem dX3_call_4 : decode cX3_call 4 = .ok (.iload_n 2, 1) := by decide +kernel
theorem dX3_call_5 : decode cX3_call 5 = .ok (.ifCond .lt 8, 3) := by decide +kernel
theorem dX3_call_8 : decode cX3_call 8 = .ok (.iload_n 3, 1) := by decide +kernel
theorem dX3_call_9 : decode cX3_call 9 = .ok (.iconst 1, 1) := by decide +kernel
theorem dX3_call_10 : decode cX3_call 10 = .ok (.if_icmp .ge 10, 3) := by decide +kernel
theorem dX3_call_13 : decode cX3_call 13 = .ok (.aload_n 0, 1) := by decide +kernel
theorem dX3_call_14 : decode cX3_call 14 = .ok (.bipush (-4), 2) := by decide +kernel
theorem dX3_call_16 : decode cX3_call 16 = .ok (.invokevirtual 39, 3) := by decide +kernel
theorem dX3_call_19 : decode cX3_call 19 = .ok (.ireturn, 1) := by decide +kernel
theorem dX3_call_20 : decode cX3_call 20 = .ok (.iload_n 1, 1) := by decide +kernel
theorem dX3_call_21 : decode cX3_call 21 = .ok (.ldc 92, 2) := by decide +kernel
theorem dX3_call_23 : decode cX3_call 23 = .ok (.if_icmp .gt 28, 3) := by decide +kernel
theorem dX3_call_26 : decode cX3_call 26 = .ok (.iload_n 2, 1) := by decide +kernel
theorem dX3_call_27 : decode cX3_call 27 = .ok (.iconst 3, 1) := by decide +kernel
theorem dX3_call_28 : decode cX3_call 28 = .ok (.if_icmp .gt 23, 3) := by decide +kernel
theorem dX3_call_31 : decode cX3_call 31 = .ok (.iload_n 3, 1) := by decide +kernel
theorem dX3_call_32 : decode cX3_call 32 = .ok (.sipush 2000, 3) := by decide +kernel
theorem dX3_call_35 : decode cX3_call 35 = .ok (.if_icmp .gt 16, 3) := by decide +kernel
theorem dX3_call_38 : decode cX3_call 38 = .ok (.aload_n 0, 1) := by decide +kernel
theorem dX3_call_39 : decode cX3_call 39 = .ok (.getfield 16, 3) := by decide +kernel
theorem dX3_call_42 : decode cX3_call 42 = .ok (.invokevirtual 43, 3) := by decide +kernel
theorem dX3_call_45 : decode cX3_call 45 = .ok (.sipush 200, 3) := by decide +kernel
theorem dX3_call_48 : decode cX3_call 48 = .ok (.if_icmp .lt 10, 3) := by decide +kernel
theorem dX3_call_51 : decode cX3_call 51 = .ok (.aload_n 0, 1) := by decide +kernel
theorem dX3_call_52 : decode cX3_call 52 = .ok (.bipush (-6), 2) := by decide +kernel
theorem dX3_call_54 : decode cX3_call 54 = .ok (.invokevirtual 39, 3) := by decide +kernel
theorem dX3_call_57 : decode cX3_call 57 = .ok (.ireturn, 1) := by decide +kernel
theorem dX3_call_58 : decode cX3_call 58 = .ok (.new 93, 3) := by decide +kernel
theorem dX3_call_61 : decode cX3_call 61 = .ok (.dup, 1) := by decide +kernel
theorem dX3_call_62 : decode cX3_call 62 = .ok (.aload_n 0, 1) := by decide +kernel
theorem dX3_call_63 : decode cX3_call 63 = .ok (.getfield 16, 3) := by decide +kernel
theorem dX3_call_66 : decode cX3_call 66 = .ok (.invokevirtual 43, 3) := by decide +kernel
theorem dX3_call_69 : decode cX3_call 69 = .ok (.iload_n 1, 1) := by decide +kernel
theorem dX3_call_70 : decode cX3_call 70 = .ok (.iload_n 2, 1) := by decide +kernel
theorem dX3_call_71 : decode cX3_call 71 = .ok (.aload_n 0, 1) := by decide +kernel
theorem dX3_call_72 : decode cX3_call 72 = .ok (.getfield 95, 3) := by decide +kernel
theorem dX3_call_75 : decode cX3_call 75 = .ok (.aload_n 0, 1) := by decide +kernel
theorem dX3_call_76 : decode cX3_call 76 = .ok (.getfield 95, 3) := by decide +kernel
theorem dX3_call_79 : decode cX3_call 79 = .ok (.iload_n 3, 1) := by decide +kernel
theorem dX3_call_80 : decode cX3_call 80 = .ok (.iadd, 1) := by decide +kernel
theorem dX3_call_81 : decode cX3_call 81 = .ok (.iload 4, 2) := by decide +kernel
theorem dX3_call_83 : decode cX3_call 83 = .ok (.invokespecial 98, 3) := by decide +kernel
theorem dX3_call_86 : decode cX3_call 86 = .ok (.astore 5, 2) := by decide +kernel
theorem dX3_call_88 : decode cX3_call 88 = .ok (.aload_n 0, 1) := by decide +kernel
theorem dX3_call_89 : decode cX3_call 89 = .ok (.getfield 16, 3) := by decide +kernel
theorem dX3_call_92 : decode cX3_call 92 = .ok (.aload 5, 2) := by decide +kernel
theorem dX3_call_94 : decode cX3_call 94 = .ok (.invokevirtual 52, 3) := by decide +kernel
theorem dX3_call_97 : decode cX3_call 97 = .ok (.pop, 1) := by decide +kernel
theorem dX3_call_98 : decode cX3_call 98 = .ok (.aload_n 0, 1) := by decide +kernel
theorem dX3_call_99 : decode cX3_call 99 = .ok (.getfield 19, 3) := by decide +kernel
theorem dX3_call_102 : decode cX3_call 102 = .ok (.aload 5, 2) := by decide +kernel
theorem dX3_call_104 : decode cX3_call 104 = .ok (.invokevirtual 52, 3) := by decide +kernel
theorem dX3_call_107 : decode cX3_call 107 = .ok (.pop, 1) := by decide +kernel
theorem dX3_call_108 : decode cX3_call 108 = .ok (.aload_n 0, 1) := by decide +kernel
theorem dX3_call_109 : decode cX3_call 109 = .ok (.aload 5, 2) := by decide +kernel
theorem dX3_call_111 : decode cX3_call 111 = .ok (.invokevirtual 101, 3) := by decide +kernel
theorem dX3_call_114 : decode cX3_call 114 = .ok (.ifCond .ne 9, 3) := by decide +kernel
theorem dX3_call_117 : decode cX3_call 117 = .ok (.aload_n 0, 1) := by decide +kernel
theorem dX3_call_118 : decode cX3_call 118 = .ok (.aload 5, 2) := by decide +kernel
theorem dX3_call_120 : decode cX3_call 120 = .ok (.invokevirtual 105, 3) := by decide +kernel
theorem dX3_call_123 : decode cX3_call 123 = .ok (.aload 5, 2) := by decide +kernel
theorem dX3_call_125 : decode cX3_call 125 = .ok (.getfield 109, 3) := by decide +kernel
theorem dX3_call_128 : decode cX3_call 128 = .ok (.ireturn, 1) := by decide +kernel
theorem dX3_off_0 : decode cX3_off 0 = .ok (.aload_n 0, 1) := by decide +kernel
theorem dX3_off_1 : decode cX3_off 1 = .ok (.iload_n 1, 1) := by decide +kernel
theorem dX3_off_2 : decode cX3_off 2 = .ok (.invokevirtual 110, 3) := by decide +kernel
theorem dX3_off_5 : decode cX3_off 5 = .ok (.astore_n 2, 1) := by decide +kernel
theorem dX3_off_6 : decode cX3_off 6 = .ok (.aload_n 2, 1) := by decide +kernel
theorem dX3_off_7 : decode cX3_off 7 = .ok (.ifnonnull 9, 3) := by decide +kernel
theorem dX3_off_10 : decode cX3_off 10 = .ok (.aload_n 0, 1) := by decide +kernel
theorem dX3_off_11 : decode cX3_off 11 = .ok (.iconst (-1), 1) := by decide +kernel
theorem dX3_off_12 : decode cX3_off 12 = .ok (.invokevirtual 39, 3) := by decide +kernel
theorem dX3_off_15 : decode cX3_off 15 = .ok (.ireturn, 1) := by decide +kernel
theorem dX3_off_16 : decode cX3_off 16 = .ok (.aload_n 2, 1) := by decide +kernel
theorem dX3_off_17 : decode cX3_off 17 = .ok (.invokevirtual 114, 3) := by decide +kernel
theorem dX3_off_20 : decode cX3_off 20 = .ok (.ifCond .eq 10, 3) := by decide +kernel
theorem dX3_off_23 : decode cX3_off 23 = .ok (.aload_n 0, 1) := by decide +kernel
theorem dX3_off_24 : decode cX3_off 24 = .ok (.bipush (-3), 2) := by decide +kernel
theorem dX3_off_26 : decode cX3_off 26 = .ok (.invokevirtual 39, 3) := by decide +kernel
theorem dX3_off_29 : decode cX3_off 29 = .ok (.ireturn, 1) := by decide +kernel
theorem dX3_off_30 : decode cX3_off 30 = .ok (.aload_n 2, 1) := by decide +kernel
theorem dX3_off_31 : decode cX3_off 31 = .ok (.getfield 118, 3) := by decide +kernel
theorem dX3_off_34 : decode cX3_off 34 = .ok (.ifCond .ne 8, 3) := by decide +kernel
theorem dX3_off_37 : decode cX3_off 37 = .ok (.aload_n 0, 1) := by decide +kernel
theorem dX3_off_38 : decode cX3_off 38 = .ok (.aload_n 2, 1) := by decide +kernel
theorem dX3_off_39 : decode cX3_off 39 = .ok (.invokevirtual 121, 3) := by decide +kernel
theorem dX3_off_42 : decode cX3_off 42 = .ok (.aload_n 2, 1) := by decide +kernel
theorem dX3_off_43 : decode cX3_off 43 = .ok (.invokevirtual 124, 3) := by decide +kernel
theorem dX3_off_46 : decode cX3_off 46 = .ok (.aload_n 0, 1) := by decide +kernel
theorem dX3_off_47 : decode cX3_off 47 = .ok (.aload_n 2, 1) := by decide +kernel
theorem dX3_off_48 : decode cX3_off 48 = .ok (.iconst 4, 1) := by decide +kernel
theorem dX3_off_49 : decode cX3_off 49 = .ok (.invokevirtual 127, 3) := by decide +kernel
theorem dX3_off_52 : decode cX3_off 52 = .ok (.aload_n 0, 1) := by decide +kernel
theorem dX3_off_53 : decode cX3_off 53 = .ok (.invokevirtual 131, 3) := by decide +kernel
theorem dX3_off_56 : decode cX3_off 56 = .ok (.iconst 1, 1) := by decide +kernel
theorem dX3_off_57 : decode cX3_off 57 = .ok (.ireturn, 1) := by decide +kernel
theorem dX3_ticks_0 : decode cX3_ticks 0 = .ok (.iload_n 1, 1) := by decide +kernel
theorem dX3_ticks_1 : decode cX3_ticks 1 = .ok (.iconst 1, 1) := by decide +kernel
theorem dX3_ticks_2 : decode cX3_ticks 2 = .ok (.sipush 20000, 3) := by decide +kernel
theorem dX3_ticks_5 : decode cX3_ticks 5 = .ok (.aload_n 0, 1) := by decide +kernel
theorem dX3_ticks_6 : decode cX3_ticks 6 = .ok (.getfield 95, 3) := by decide +kernel
theorem dX3_ticks_9 : decode cX3_ticks 9 = .ok (.isub, 1) := by decide +kernel
theorem dX3_ticks_10 : decode cX3_ticks 10 = .ok (.invokestatic 72, 3) := by decide +kernel
theorem dX3_ticks_13 : decode cX3_ticks 13 = .ok (.istore_n 2, 1) := by decide +kernel
theorem dX3_ticks_14 : decode cX3_ticks 14 = .ok (.iload_n 2, 1) := by decide +kernel
theorem dX3_ticks_15 : decode cX3_ticks 15 = .ok (.ifCond .eq 9, 3) := by decide +kernel
theorem dX3_ticks_18 : decode cX3_ticks 18 = .ok (.aload_n 0, 1) := by decide +kernel
theorem dX3_ticks_19 : decode cX3_ticks 19 = .ok (.iload_n 2, 1) := by decide +kernel
theorem dX3_ticks_20 : decode cX3_ticks 20 = .ok (.invokevirtual 39, 3) := by decide +kernel
theorem dX3_ticks_23 : decode cX3_ticks 23 = .ok (.ireturn, 1) := by decide +kernel
theorem dX3_ticks_24 : decode cX3_ticks 24 = .ok (.aload_n 0, 1) := by decide +kernel
theorem dX3_ticks_25 : decode cX3_ticks 25 = .ok (.getfield 134, 3) := by decide +kernel
theorem dX3_ticks_28 : decode cX3_ticks 28 = .ok (.istore_n 3, 1) := by decide +kernel
theorem dX3_ticks_29 : decode cX3_ticks 29 = .ok (.iconst 0, 1) := by decide +kernel
theorem dX3_ticks_30 : decode cX3_ticks 30 = .ok (.istore 4, 2) := by decide +kernel
theorem dX3_ticks_32 : decode cX3_ticks 32 = .ok (.iload 4, 2) := by decide +kernel
theorem dX3_ticks_34 : decode cX3_ticks 34 = .ok (.iload_n 1, 1) := by decide +kernel
theorem dX3_ticks_35 : decode cX3_ticks 35 = .ok (.if_icmp .ge 13, 3) := by decide +kernel
theorem dX3_ticks_38 : decode cX3_ticks 38 = .ok (.aload_n 0, 1) := by decide +kernel
theorem dX3_ticks_39 : decode cX3_ticks 39 = .ok (.invokevirtual 137, 3) := by decide +kernel
theorem dX3_ticks_42 : decode cX3_ticks 42 = .ok (.iinc 4 1, 3) := by decide +kernel
theorem dX3_ticks_45 : decode cX3_ticks 45 = .ok (.goto (-13), 3) := by decide +kernel
theorem dX3_ticks_48 : decode cX3_ticks 48 = .ok (.aload_n 0, 1) := by decide +kernel
theorem dX3_ticks_49 : decode cX3_ticks 49 = .ok (.getfield 134, 3) := by decide +kernel
theorem dX3_ticks_52 : decode cX3_ticks 52 = .ok (.iload_n 3, 1) := by decide +kernel
theorem dX3_ticks_53 : decode cX3_ticks 53 = .ok (.isub, 1) := by decide +kernel
theorem dX3_ticks_54 : decode cX3_ticks 54 = .ok (.ireturn, 1) := by decide +kernel
theorem dX3_pick_0 : decode cX3_pick 0 = .ok (.iload_n 1, 1) := by decide +kernel
theorem dX3_pick_1 : decode cX3_pick 1 = .ok (.iconst 0, 1) := by decide +kernel
theorem dX3_pick_2 : decode cX3_pick 2 = .ok (.ldc 92, 2) := by decide +kernel
theorem dX3_pick_4 : decode cX3_pick 4 = .ok (.invokestatic 72, 3) := by decide +kernel
theorem dX3_pick_7 : decode cX3_pick 7 = .ok (.istore_n 2, 1) := by decide +kernel
theorem dX3_pick_8 : decode cX3_pick 8 = .ok (.iload_n 2, 1) := by decide +kernel
theorem dX3_pick_9 : decode cX3_pick 9 = .ok (.ifCond .eq 9, 3) := by decide +kernel
theorem dX3_pick_12 : decode cX3_pick 12 = .ok (.aload_n 0, 1) := by decide +kernel
theorem dX3_pick_13 : decode cX3_pick 13 = .ok (.iload_n 2, 1) := by decide +kernel
theorem dX3_pick_14 : decode cX3_pick 14 = .ok (.invokevirtual 39, 3) := by decide +kernel
theorem dX3_pick_17 : decode cX3_pick 17 = .ok (.ireturn, 1) := by decide +kernel
theorem dX3_pick_18 : decode cX3_pick 18 = .ok (.aload_n 0, 1) := by decide +kernel
theorem dX3_pick_19 : decode cX3_pick 19 = .ok (.iload_n 1, 1) := by decide +kernel
theorem dX3_pick_20 : decode cX3_pick 20 = .ok (.iconst 0, 1) := by decide +kernel
theorem dX3_pick_21 : decode cX3_pick 21 = .ok (.invokevirtual 140, 3) := by decide +kernel
theorem dX3_pick_24 : decode cX3_pick 24 = .ok (.astore_n 3, 1) := by decide +kernel
theorem dX3_pick_25 : decode cX3_pick 25 = .ok (.aload_n 3, 1) := by decide +kernel
theorem dX3_pick_26 : decode cX3_pick 26 = .ok (.ifnonnull 8, 3) := by decide +kernel
theorem dX3_pick_29 : decode cX3_pick 29 = .ok (.bipush (-9), 2) := by decide +kernel
theorem dX3_pick_31 : decode cX3_pick 31 = .ok (.goto 7, 3) := by decide +kernel
theorem dX3_pick_34 : decode cX3_pick 34 = .ok (.aload_n 3, 1) := by decide +kernel
theorem dX3_pick_35 : decode cX3_pick 35 = .ok (.getfield 56, 3) := by decide +kernel
theorem dX3_pick_38 : decode cX3_pick 38 = .ok (.ireturn, 1) := by decide +kernel
theorem dX3_callOf_0 : decode cX3_callOf 0 = .ok (.aload_n 0, 1) := by decide +kernel
theorem dX3_callOf_1 : decode cX3_callOf 1 = .ok (.iload_n 1, 1) := by decide +kernel
theorem dX3_callOf_2 : decode cX3_callOf 2 = .ok (.invokevirtual 110, 3) := by decide +kernel
theorem dX3_callOf_5 : decode cX3_callOf 5 = .ok (.astore_n 3, 1) := by decide +kernel
theorem dX3_callOf_6 : decode cX3_callOf 6 = .ok (.aload_n 3, 1) := by decide +kernel
theorem dX3_callOf_7 : decode cX3_callOf 7 = .ok (.ifnonnull 9, 3) := by decide +kernel
theorem dX3_callOf_10 : decode cX3_callOf 10 = .ok (.aload_n 0, 1) := by decide +kernel
theorem dX3_callOf_11 : decode cX3_callOf 11 = .ok (.iconst (-1), 1) := by decide +kernel
theorem dX3_callOf_12 : decode cX3_callOf 12 = .ok (.invokevirtual 39, 3) := by decide +kernel
theorem dX3_callOf_15 : decode cX3_callOf 15 = .ok (.ireturn, 1) := by decide +kernel
theorem dX3_callOf_16 : decode cX3_callOf 16 = .ok (.iload_n 2, 1) := by decide +kernel
theorem dX3_callOf_17 : decode cX3_callOf 17 = .ok (.ifCond .lt 9, 3) := by decide +kernel
theorem dX3_callOf_20 : decode cX3_callOf 20 = .ok (.iload_n 2, 1) := by decide +kernel
theorem dX3_callOf_21 : decode cX3_callOf 21 = .ok (.bipush 10, 2) := by decide +kernel
theorem dX3_callOf_23 : decode cX3_callOf 23 = .ok (.if_icmp .le 12, 3) := by decide +kernel
theorem dX3_callOf_26 : decode cX3_callOf 26 = .ok (.aload_n 0, 1) := by decide +kernel
theorem dX3_callOf_27 : decode cX3_callOf 27 = .ok (.bipush (-2), 2) := by decide +kernel
theorem dX3_callOf_29 : decode cX3_callOf 29 = .ok (.invokevirtual 39, 3) := by decide +kernel
theorem dX3_callOf_32 : decode cX3_callOf 32 = .ok (.goto 8, 3) := by decide +kernel
theorem dX3_callOf_35 : decode cX3_callOf 35 = .ok (.aload_n 3, 1) := by decide +kernel
theorem dX3_callOf_36 : decode cX3_callOf 36 = .ok (.iload_n 2, 1) := by decide +kernel
theorem dX3_callOf_37 : decode cX3_callOf 37 = .ok (.invokevirtual 144, 3) := by decide +kernel
theorem dX3_callOf_40 : decode cX3_callOf 40 = .ok (.ireturn, 1) := by decide +kernel
theorem dX3_serverOf_0 : decode cX3_serverOf 0 = .ok (.aload_n 0, 1) := by decide +kernel
theorem dX3_serverOf_1 : decode cX3_serverOf 1 = .ok (.iload_n 1, 1) := by decide +kernel
theorem dX3_serverOf_2 : decode cX3_serverOf 2 = .ok (.invokevirtual 59, 3) := by decide +kernel
theorem dX3_serverOf_5 : decode cX3_serverOf 5 = .ok (.astore_n 3, 1) := by decide +kernel
theorem dX3_serverOf_6 : decode cX3_serverOf 6 = .ok (.aload_n 3, 1) := by decide +kernel
theorem dX3_serverOf_7 : decode cX3_serverOf 7 = .ok (.ifnonnull 9, 3) := by decide +kernel
theorem dX3_serverOf_10 : decode cX3_serverOf 10 = .ok (.aload_n 0, 1) := by decide +kernel
theorem dX3_serverOf_11 : decode cX3_serverOf 11 = .ok (.iconst (-1), 1) := by decide +kernel
theorem dX3_serverOf_12 : decode cX3_serverOf 12 = .ok (.invokevirtual 39, 3) := by decide +kernel
theorem dX3_serverOf_15 : decode cX3_serverOf 15 = .ok (.ireturn, 1) := by decide +kernel
theorem dX3_serverOf_16 : decode cX3_serverOf 16 = .ok (.iload_n 2, 1) := by decide +kernel
theorem dX3_serverOf_17 : decode cX3_serverOf 17 = .ok (.ifCond .lt 9, 3) := by decide +kernel
theorem dX3_serverOf_20 : decode cX3_serverOf 20 = .ok (.iload_n 2, 1) := by decide +kernel
theorem dX3_serverOf_21 : decode cX3_serverOf 21 = .ok (.bipush 15, 2) := by decide +kernel
theorem dX3_serverOf_23 : decode cX3_serverOf 23 = .ok (.if_icmp .le 12, 3) := by decide +kernel
theorem dX3_serverOf_26 : decode cX3_serverOf 26 = .ok (.aload_n 0, 1) := by decide +kernel
theorem dX3_serverOf_27 : decode cX3_serverOf 27 = .ok (.bipush (-2), 2) := by decide +kernel
theorem dX3_serverOf_29 : decode cX3_serverOf 29 = .ok (.invokevirtual 39, 3) := by decide +kernel
theorem dX3_serverOf_32 : decode cX3_serverOf 32 = .ok (.goto 8, 3) := by decide +kernel
theorem dX3_serverOf_35 : decode cX3_serverOf 35 = .ok (.aload_n 3, 1) := by decide +kernel
theorem dX3_serverOf_36 : decode cX3_serverOf 36 = .ok (.iload_n 2, 1) := by decide +kernel
theorem dX3_serverOf_37 : decode cX3_serverOf 37 = .ok (.invokevirtual 147, 3) := by decide +kernel
theorem dX3_serverOf_40 : decode cX3_serverOf 40 = .ok (.ireturn, 1) := by decide +kernel
theorem dX3_mark_0 : decode cX3_mark 0 = .ok (.aload_n 0, 1) := by decide +kernel
theorem dX3_mark_1 : decode cX3_mark 1 = .ok (.iload_n 1, 1) := by decide +kernel
theorem dX3_mark_2 : decode cX3_mark 2 = .ok (.invokevirtual 59, 3) := by decide +kernel
theorem dX3_mark_5 : decode cX3_mark 5 = .ok (.astore_n 3, 1) := by decide +kernel
theorem dX3_mark_6 : decode cX3_mark 6 = .ok (.aload_n 3, 1) := by decide +kernel
theorem dX3_mark_7 : decode cX3_mark 7 = .ok (.ifnonnull 9, 3) := by decide +kernel
theorem dX3_mark_10 : decode cX3_mark 10 = .ok (.aload_n 0, 1) := by decide +kernel
theorem dX3_mark_11 : decode cX3_mark 11 = .ok (.iconst (-1), 1) := by decide +kernel
theorem dX3_mark_12 : decode cX3_mark 12 = .ok (.invokevirtual 39, 3) := by decide +kernel
theorem dX3_mark_15 : decode cX3_mark 15 = .ok (.ireturn, 1) := by decide +kernel
theorem dX3_mark_16 : decode cX3_mark 16 = .ok (.iload_n 2, 1) := by decide +kernel
theorem dX3_mark_17 : decode cX3_mark 17 = .ok (.ifCond .lt 8, 3) := by decide +kernel
theorem dX3_mark_20 : decode cX3_mark 20 = .ok (.iload_n 2, 1) := by decide +kernel
theorem dX3_mark_21 : decode cX3_mark 21 = .ok (.iconst 4, 1) := by decide +kernel
theorem dX3_mark_22 : decode cX3_mark 22 = .ok (.if_icmp .lt 12, 3) := by decide +kernel
theorem dX3_mark_25 : decode cX3_mark 25 = .ok (.aload_n 0, 1) := by decide +kernel
theorem dX3_mark_26 : decode cX3_mark 26 = .ok (.bipush (-2), 2) := by decide +kernel
theorem dX3_mark_28 : decode cX3_mark 28 = .ok (.invokevirtual 39, 3) := by decide +kernel
theorem dX3_mark_31 : decode cX3_mark 31 = .ok (.goto 8, 3) := by decide +kernel
theorem dX3_mark_34 : decode cX3_mark 34 = .ok (.aload_n 3, 1) := by decide +kernel
theorem dX3_mark_35 : decode cX3_mark 35 = .ok (.iload_n 2, 1) := by decide +kernel
theorem dX3_mark_36 : decode cX3_mark 36 = .ok (.invokevirtual 148, 3) := by decide +kernel
theorem dX3_mark_39 : decode cX3_mark 39 = .ok (.ireturn, 1) := by decide +kernel
theorem dX3_queue_0 : decode cX3_queue 0 = .ok (.iload_n 1, 1) := by decide +kernel
theorem dX3_queue_1 : decode cX3_queue 1 = .ok (.ifCond .lt 14, 3) := by decide +kernel
theorem dX3_queue_4 : decode cX3_queue 4 = .ok (.iload_n 1, 1) := by decide +kernel
theorem dX3_queue_5 : decode cX3_queue 5 = .ok (.aload_n 0, 1) := by decide +kernel
theorem dX3_queue_6 : decode cX3_queue 6 = .ok (.getfield 22, 3) := by decide +kernel
theorem dX3_queue_9 : decode cX3_queue 9 = .ok (.invokevirtual 43, 3) := by decide +kernel
theorem dX3_queue_12 : decode cX3_queue 12 = .ok (.if_icmp .lt 8, 3) := by decide +kernel
theorem dX3_queue_15 : decode cX3_queue 15 = .ok (.bipush (-9), 2) := by decide +kernel
theorem dX3_queue_17 : decode cX3_queue 17 = .ok (.goto 17, 3) := by decide +kernel
theorem dX3_queue_20 : decode cX3_queue 20 = .ok (.aload_n 0, 1) := by decide +kernel
theorem dX3_queue_21 : decode cX3_queue 21 = .ok (.getfield 22, 3) := by decide +kernel
theorem dX3_queue_24 : decode cX3_queue 24 = .ok (.iload_n 1, 1) := by decide +kernel
theorem dX3_queue_25 : decode cX3_queue 25 = .ok (.invokevirtual 151, 3) := by decide +kernel
theorem dX3_queue_28 : decode cX3_queue 28 = .ok (.checkcast 93, 3) := by decide +kernel
theorem dX3_queue_31 : decode cX3_queue 31 = .ok (.getfield 109, 3) := by decide +kernel
theorem dX3_queue_34 : decode cX3_queue 34 = .ok (.ireturn, 1) := by decide +kernel
theorem dX3_share_0 : decode cX3_share 0 = .ok (.aload_n 0, 1) := by decide +kernel
theorem dX3_share_1 : decode cX3_share 1 = .ok (.iload_n 1, 1) := by decide +kernel
theorem dX3_share_2 : decode cX3_share 2 = .ok (.invokevirtual 59, 3) := by decide +kernel
theorem dX3_share_5 : decode cX3_share 5 = .ok (.astore_n 2, 1) := by decide +kernel
theorem dX3_share_6 : decode cX3_share 6 = .ok (.aload_n 2, 1) := by decide +kernel
theorem dX3_share_7 : decode cX3_share 7 = .ok (.ifnonnull 9, 3) := by decide +kernel
theorem dX3_share_10 : decode cX3_share 10 = .ok (.aload_n 0, 1) := by decide +kernel
theorem dX3_share_11 : decode cX3_share 11 = .ok (.iconst (-1), 1) := by decide +kernel
theorem dX3_share_12 : decode cX3_share 12 = .ok (.invokevirtual 39, 3) := by decide +kernel
theorem dX3_share_15 : decode cX3_share 15 = .ok (.ireturn, 1) := by decide +kernel
theorem dX3_share_16 : decode cX3_share 16 = .ok (.aload_n 0, 1) := by decide +kernel
theorem dX3_share_17 : decode cX3_share 17 = .ok (.invokevirtual 155, 3) := by decide +kernel
theorem dX3_share_20 : decode cX3_share 20 = .ok (.istore_n 3, 1) := by decide +kernel
theorem dX3_share_21 : decode cX3_share 21 = .ok (.iload_n 3, 1) := by decide +kernel
theorem dX3_share_22 : decode cX3_share 22 = .ok (.ifCond .ne 7, 3) := by decide +kernel
theorem dX3_share_25 : decode cX3_share 25 = .ok (.iconst 0, 1) := by decide +kernel
theorem dX3_share_26 : decode cX3_share 26 = .ok (.goto 13, 3) := by decide +kernel
theorem dX3_share_29 : decode cX3_share 29 = .ok (.aload_n 2, 1) := by decide +kernel
theorem dX3_share_30 : decode cX3_share 30 = .ok (.getfield 158, 3) := by decide +kernel
theorem dX3_share_33 : decode cX3_share 33 = .ok (.sipush 1000, 3) := by decide +kernel
theorem dX3_share_36 : decode cX3_share 36 = .ok (.imul, 1) := by decide +kernel
theorem dX3_share_37 : decode cX3_share 37 = .ok (.iload_n 3, 1) := by decide +kernel
theorem dX3_share_38 : decode cX3_share 38 = .ok (.idiv, 1) := by decide +kernel
theorem dX3_share_39 : decode cX3_share 39 = .ok (.ireturn, 1) := by decide +kernel
theorem dX3_count_0 : decode cX3_count 0 = .ok (.iload_n 1, 1) := by decide +kernel
theorem dX3_count_1 : decode cX3_count 1 = .ok (.iconst 3, 1) := by decide +kernel
theorem dX3_count_2 : decode cX3_count 2 = .ok (.if_icmp .lt 17, 3) := by decide +kernel
theorem dX3_count_5 : decode cX3_count 5 = .ok (.iload_n 1, 1) := by decide +kernel
theorem dX3_count_6 : decode cX3_count 6 = .ok (.bipush 7, 2) := by decide +kernel
theorem dX3_count_8 : decode cX3_count 8 = .ok (.if_icmp .gt 11, 3) := by decide +kernel
theorem dX3_count_11 : decode cX3_count 11 = .ok (.aload_n 0, 1) := by decide +kernel
theorem dX3_count_12 : decode cX3_count 12 = .ok (.iload_n 1, 1) := by decide +kernel
theorem dX3_count_13 : decode cX3_count 13 = .ok (.iconst 3, 1) := by decide +kernel
theorem dX3_count_14 : decode cX3_count 14 = .ok (.isub, 1) := by decide +kernel
theorem dX3_count_15 : decode cX3_count 15 = .ok (.invokevirtual 161, 3) := by decide +kernel
theorem dX3_count_18 : decode cX3_count 18 = .ok (.ireturn, 1) := by decide +kernel
theorem dX3_count_19 : decode cX3_count 19 = .ok (.iload_n 1, 1) := by decide +kernel
theorem dX3_count_20 : decode cX3_count 20 = .ok (.bipush 11, 2) := by decide +kernel
theorem dX3_count_22 : decode cX3_count 22 = .ok (.if_icmp .lt 19, 3) := by decide +kernel
theorem dX3_count_25 : decode cX3_count 25 = .ok (.iload_n 1, 1) := by decide +kernel
theorem dX3_count_26 : decode cX3_count 26 = .ok (.bipush 16, 2) := by decide +kernel
theorem dX3_count_28 : decode cX3_count 28 = .ok (.if_icmp .gt 13, 3) := by decide +kernel
theorem dX3_count_31 : decode cX3_count 31 = .ok (.aload_n 0, 1) := by decide +kernel
theorem dX3_count_32 : decode cX3_count 32 = .ok (.getfield 25, 3) := by decide +kernel
theorem dX3_count_35 : decode cX3_count 35 = .ok (.iload_n 1, 1) := by decide +kernel
theorem dX3_count_36 : decode cX3_count 36 = .ok (.bipush 10, 2) := by decide +kernel
theorem dX3_count_38 : decode cX3_count 38 = .ok (.isub, 1) := by decide +kernel
theorem dX3_count_39 : decode cX3_count 39 = .ok (.iaload, 1) := by decide +kernel
theorem dX3_count_40 : decode cX3_count 40 = .ok (.ireturn, 1) := by decide +kernel
theorem dX3_count_41 : decode cX3_count 41 = .ok (.iload_n 1, 1) := by decide +kernel
theorem dX3_count_42 : decode cX3_count 42 = .ok (.tableswitch 127 0 17 #[86, 91, 99, 127, 127, 127, 127, 127, 107, 112, 117, 127, 127, 127, 127, 127, 127, 122], 86) := by decide +kernel
theorem dX3_count_128 : decode cX3_count 128 = .ok (.aload_n 0, 1) := by decide +kernel
theorem dX3_count_129 : decode cX3_count 129 = .ok (.getfield 95, 3) := by decide +kernel
theorem dX3_count_132 : decode cX3_count 132 = .ok (.ireturn, 1) := by decide +kernel
theorem dX3_count_133 : decode cX3_count 133 = .ok (.aload_n 0, 1) := by decide +kernel
theorem dX3_count_134 : decode cX3_count 134 = .ok (.getfield 10, 3) := by decide +kernel
theorem dX3_count_137 : decode cX3_count 137 = .ok (.invokevirtual 43, 3) := by decide +kernel
theorem dX3_count_140 : decode cX3_count 140 = .ok (.ireturn, 1) := by decide +kernel
theorem dX3_count_141 : decode cX3_count 141 = .ok (.aload_n 0, 1) := by decide +kernel
theorem dX3_count_142 : decode cX3_count 142 = .ok (.getfield 16, 3) := by decide +kernel
theorem dX3_count_145 : decode cX3_count 145 = .ok (.invokevirtual 43, 3) := by decide +kernel
theorem dX3_count_148 : decode cX3_count 148 = .ok (.ireturn, 1) := by decide +kernel
theorem dX3_count_149 : decode cX3_count 149 = .ok (.aload_n 0, 1) := by decide +kernel
theorem dX3_count_150 : decode cX3_count 150 = .ok (.invokevirtual 155, 3) := by decide +kernel
theorem dX3_count_153 : decode cX3_count 153 = .ok (.ireturn, 1) := by decide +kernel
theorem dX3_count_154 : decode cX3_count 154 = .ok (.aload_n 0, 1) := by decide +kernel
theorem dX3_count_155 : decode cX3_count 155 = .ok (.getfield 164, 3) := by decide +kernel
theorem dX3_count_158 : decode cX3_count 158 = .ok (.ireturn, 1) := by decide +kernel
theorem dX3_count_159 : decode cX3_count 159 = .ok (.aload_n 0, 1) := by decide +kernel
theorem dX3_count_160 : decode cX3_count 160 = .ok (.getfield 167, 3) := by decide +kernel
theorem dX3_count_163 : decode cX3_count 163 = .ok (.ireturn, 1) := by decide +kernel
theorem dX3_count_164 : decode cX3_count 164 = .ok (.aload_n 0, 1) := by decide +kernel
theorem dX3_count_165 : decode cX3_count 165 = .ok (.invokevirtual 170, 3) := by decide +kernel
theorem dX3_count_168 : decode cX3_count 168 = .ok (.ireturn, 1) := by decide +kernel
theorem dX3_count_169 : decode cX3_count 169 = .ok (.bipush (-9), 2) := by decide +kernel
theorem dX3_count_171 : decode cX3_count 171 = .ok (.ireturn, 1) := by decide +kernel
theorem dX3_serverAt_0 : decode cX3_serverAt 0 = .ok (.iload_n 1, 1) := by decide +kernel
theorem dX3_serverAt_1 : decode cX3_serverAt 1 = .ok (.ifCond .lt 14, 3) := by decide +kernel
theorem dX3_serverAt_4 : decode cX3_serverAt 4 = .ok (.iload_n 1, 1) := by decide +kernel
theorem dX3_serverAt_5 : decode cX3_serverAt 5 = .ok (.aload_n 0, 1) := by decide +kernel
theorem dX3_serverAt_6 : decode cX3_serverAt 6 = .ok (.getfield 10, 3) := by decide +kernel
theorem dX3_serverAt_9 : decode cX3_serverAt 9 = .ok (.invokevirtual 43, 3) := by decide +kernel
theorem dX3_serverAt_12 : decode cX3_serverAt 12 = .ok (.if_icmp .lt 7, 3) := by decide +kernel
theorem dX3_serverAt_15 : decode cX3_serverAt 15 = .ok (.aconst_null, 1) := by decide +kernel
theorem dX3_serverAt_16 : decode cX3_serverAt 16 = .ok (.goto 14, 3) := by decide +kernel
theorem dX3_serverAt_19 : decode cX3_serverAt 19 = .ok (.aload_n 0, 1) := by decide +kernel
theorem dX3_serverAt_20 : decode cX3_serverAt 20 = .ok (.getfield 10, 3) := by decide +kernel
theorem dX3_serverAt_23 : decode cX3_serverAt 23 = .ok (.iload_n 1, 1) := by decide +kernel
theorem dX3_serverAt_24 : decode cX3_serverAt 24 = .ok (.invokevirtual 151, 3) := by decide +kernel
theorem dX3_serverAt_27 : decode cX3_serverAt 27 = .ok (.checkcast 47, 3) := by decide +kernel
theorem dX3_serverAt_30 : decode cX3_serverAt 30 = .ok (.areturn, 1) := by decide +kernel
theorem dX3_callAt_0 : decode cX3_callAt 0 = .ok (.iload_n 1, 1) := by decide +kernel
theorem dX3_callAt_1 : decode cX3_callAt 1 = .ok (.ifCond .lt 14, 3) := by decide +kernel
theorem dX3_callAt_4 : decode cX3_callAt 4 = .ok (.iload_n 1, 1) := by decide +kernel
theorem dX3_callAt_5 : decode cX3_callAt 5 = .ok (.aload_n 0, 1) := by decide +kernel
theorem dX3_callAt_6 : decode cX3_callAt 6 = .ok (.getfield 16, 3) := by decide +kernel
theorem dX3_callAt_9 : decode cX3_callAt 9 = .ok (.invokevirtual 43, 3) := by decide +kernel
theorem dX3_callAt_12 : decode cX3_callAt 12 = .ok (.if_icmp .lt 7, 3) := by decide +kernel
theorem dX3_callAt_15 : decode cX3_callAt 15 = .ok (.aconst_null, 1) := by decide +kernel
theorem dX3_callAt_16 : decode cX3_callAt 16 = .ok (.goto 14, 3) := by decide +kernel
theorem dX3_callAt_19 : decode cX3_callAt 19 = .ok (.aload_n 0, 1) := by decide +kernel
theorem dX3_callAt_20 : decode cX3_callAt 20 = .ok (.getfield 16, 3) := by decide +kernel
theorem dX3_callAt_23 : decode cX3_callAt 23 = .ok (.iload_n 1, 1) := by decide +kernel
theorem dX3_callAt_24 : decode cX3_callAt 24 = .ok (.invokevirtual 151, 3) := by decide +kernel
theorem dX3_callAt_27 : decode cX3_callAt 27 = .ok (.checkcast 93, 3) := by decide +kernel
theorem dX3_callAt_30 : decode cX3_callAt 30 = .ok (.areturn, 1) := by decide +kernel
theorem dX3_refuse_0 : decode cX3_refuse 0 = .ok (.iload_n 1, 1) := by decide +kernel
theorem dX3_refuse_1 : decode cX3_refuse 1 = .ok (.ineg, 1) := by decide +kernel
theorem dX3_refuse_2 : decode cX3_refuse 2 = .ok (.istore_n 2, 1) := by decide +kernel
theorem dX3_refuse_3 : decode cX3_refuse 3 = .ok (.iload_n 2, 1) := by decide +kernel
theorem dX3_refuse_4 : decode cX3_refuse 4 = .ok (.ifCond .lt 22, 3) := by decide +kernel
theorem dX3_refuse_7 : decode cX3_refuse 7 = .ok (.iload_n 2, 1) := by decide +kernel
theorem dX3_refuse_8 : decode cX3_refuse 8 = .ok (.aload_n 0, 1) := by decide +kernel
theorem dX3_refuse_9 : decode cX3_refuse 9 = .ok (.getfield 25, 3) := by decide +kernel
theorem dX3_refuse_12 : decode cX3_refuse 12 = .ok (.arraylength, 1) := by decide +kernel
theorem dX3_refuse_13 : decode cX3_refuse 13 = .ok (.if_icmp .ge 13, 3) := by decide +kernel
theorem dX3_refuse_16 : decode cX3_refuse 16 = .ok (.aload_n 0, 1) := by decide +kernel
theorem dX3_refuse_17 : decode cX3_refuse 17 = .ok (.getfield 25, 3) := by decide +kernel
theorem dX3_refuse_20 : decode cX3_refuse 20 = .ok (.iload_n 2, 1) := by decide +kernel
theorem dX3_refuse_21 : decode cX3_refuse 21 = .ok (.dup2, 1) := by decide +kernel
theorem dX3_refuse_22 : decode cX3_refuse 22 = .ok (.iaload, 1) := by decide +kernel
theorem dX3_refuse_23 : decode cX3_refuse 23 = .ok (.iconst 1, 1) := by decide +kernel
theorem dX3_refuse_24 : decode cX3_refuse 24 = .ok (.iadd, 1) := by decide +kernel
theorem dX3_refuse_25 : decode cX3_refuse 25 = .ok (.iastore, 1) := by decide +kernel
theorem dX3_refuse_26 : decode cX3_refuse 26 = .ok (.iload_n 1, 1) := by decide +kernel
theorem dX3_refuse_27 : decode cX3_refuse 27 = .ok (.ireturn, 1) := by decide +kernel
theorem dX3_faultOf_0 : decode cX3_faultOf 0 = .ok (.iload_n 0, 1) := by decide +kernel
theorem dX3_faultOf_1 : decode cX3_faultOf 1 = .ok (.iload_n 1, 1) := by decide +kernel
theorem dX3_faultOf_2 : decode cX3_faultOf 2 = .ok (.if_icmp .ge 8, 3) := by decide +kernel
theorem dX3_faultOf_5 : decode cX3_faultOf 5 = .ok (.bipush (-4), 2) := by decide +kernel
theorem dX3_faultOf_7 : decode cX3_faultOf 7 = .ok (.goto 14, 3) := by decide +kernel
theorem dX3_faultOf_10 : decode cX3_faultOf 10 = .ok (.iload_n 0, 1) := by decide +kernel
theorem dX3_faultOf_11 : decode cX3_faultOf 11 = .ok (.iload_n 2, 1) := by decide +kernel
theorem dX3_faultOf_12 : decode cX3_faultOf 12 = .ok (.if_icmp .le 8, 3) := by decide +kernel
theorem dX3_faultOf_15 : decode cX3_faultOf 15 = .ok (.bipush (-6), 2) := by decide +kernel
theorem dX3_faultOf_17 : decode cX3_faultOf 17 = .ok (.goto 4, 3) := by decide +kernel
theorem dX3_faultOf_20 : decode cX3_faultOf 20 = .ok (.iconst 0, 1) := by decide +kernel
theorem dX3_faultOf_21 : decode cX3_faultOf 21 = .ok (.ireturn, 1) := by decide +kernel
theorem dX3_leastOf_0 : decode cX3_leastOf 0 = .ok (.iload_n 0, 1) := by decide +kernel
theorem dX3_leastOf_1 : decode cX3_leastOf 1 = .ok (.iconst 2, 1) := by decide +kernel
theorem dX3_leastOf_2 : decode cX3_leastOf 2 = .ok (.if_icmp .gt 7, 3) := by decide +kernel
theorem dX3_leastOf_5 : decode cX3_leastOf 5 = .ok (.iconst 1, 1) := by decide +kernel
theorem dX3_leastOf_6 : decode cX3_leastOf 6 = .ok (.goto 4, 3) := by decide +kernel
theorem dX3_leastOf_9 : decode cX3_leastOf 9 = .ok (.iconst 0, 1) := by decide +kernel
theorem dX3_leastOf_10 : decode cX3_leastOf 10 = .ok (.ireturn, 1) := by decide +kernel
theorem dX3_greatestOf_0 : decode cX3_greatestOf 0 = .ok (.iload_n 0, 1) := by decide +kernel
theorem dX3_greatestOf_1 : decode cX3_greatestOf 1 = .ok (.tableswitch 44 0 3 #[31, 34, 37, 41], 31) := by decide +kernel
theorem dX3_greatestOf_32 : decode cX3_greatestOf 32 = .ok (.bipush 100, 2) := by decide +kernel
theorem dX3_greatestOf_34 : decode cX3_greatestOf 34 = .ok (.ireturn, 1) := by decide +kernel
theorem dX3_greatestOf_35 : decode cX3_greatestOf 35 = .ok (.bipush 20, 2) := by decide +kernel
theorem dX3_greatestOf_37 : decode cX3_greatestOf 37 = .ok (.ireturn, 1) := by decide +kernel
theorem dX3_greatestOf_38 : decode cX3_greatestOf 38 = .ok (.sipush 200, 3) := by decide +kernel
theorem dX3_greatestOf_41 : decode cX3_greatestOf 41 = .ok (.ireturn, 1) := by decide +kernel
theorem dX3_greatestOf_42 : decode cX3_greatestOf 42 = .ok (.bipush 20, 2) := by decide +kernel
theorem dX3_greatestOf_44 : decode cX3_greatestOf 44 = .ok (.ireturn, 1) := by decide +kernel
theorem dX3_greatestOf_45 : decode cX3_greatestOf 45 = .ok (.iconst 1, 1) := by decide +kernel
theorem dX3_greatestOf_46 : decode cX3_greatestOf 46 = .ok (.ireturn, 1) := by decide +kernel
end
section
theorem dX3_callsThatAre_0 : decode cX3_callsThatAre 0 = .ok (.iconst 0, 1) := by decide +kernel
theorem dX3_callsThatAre_1 : decode cX3_callsThatAre 1 = .ok (.istore_n 2, 1) := by decide +kernel
theorem dX3_callsThatAre_2 : decode cX3_callsThatAre 2 = .ok (.iconst 0, 1) := by decide +kernel
theorem dX3_callsThatAre_3 : decode cX3_callsThatAre 3 = .ok (.istore_n 3, 1) := by decide +kernel
theorem dX3_callsThatAre_4 : decode cX3_callsThatAre 4 = .ok (.iload_n 3, 1) := by decide +kernel
theorem dX3_callsThatAre_5 : decode cX3_callsThatAre 5 = .ok (.aload_n 0, 1) := by decide +kernel
theorem dX3_callsThatAre_6 : decode cX3_callsThatAre 6 = .ok (.getfield 16, 3) := by decide +kernel
theorem dX3_callsThatAre_9 : decode cX3_callsThatAre 9 = .ok (.invokevirtual 43, 3) := by decide +kernel
theorem dX3_callsThatAre_12 : decode cX3_callsThatAre 12 = .ok (.if_icmp .ge 30, 3) := by decide +kernel
theorem dX3_callsThatAre_15 : decode cX3_callsThatAre 15 = .ok (.aload_n 0, 1) := by decide +kernel
theorem dX3_callsThatAre_16 : decode cX3_callsThatAre 16 = .ok (.getfield 16, 3) := by decide +kernel
theorem dX3_callsThatAre_19 : decode cX3_callsThatAre 19 = .ok (.iload_n 3, 1) := by decide +kernel
theorem dX3_callsThatAre_20 : decode cX3_callsThatAre 20 = .ok (.invokevirtual 151, 3) := by decide +kernel
theorem dX3_callsThatAre_23 : decode cX3_callsThatAre 23 = .ok (.checkcast 93, 3) := by decide +kernel
theorem dX3_callsThatAre_26 : decode cX3_callsThatAre 26 = .ok (.getfield 118, 3) := by decide +kernel
theorem dX3_callsThatAre_29 : decode cX3_callsThatAre 29 = .ok (.iload_n 1, 1) := by decide +kernel
theorem dX3_callsThatAre_30 : decode cX3_callsThatAre 30 = .ok (.if_icmp .ne 6, 3) := by decide +kernel
theorem dX3_callsThatAre_33 : decode cX3_callsThatAre 33 = .ok (.iinc 2 1, 3) := by decide +kernel
theorem dX3_callsThatAre_36 : decode cX3_callsThatAre 36 = .ok (.iinc 3 1, 3) := by decide +kernel
theorem dX3_callsThatAre_39 : decode cX3_callsThatAre 39 = .ok (.goto (-35), 3) := by decide +kernel
theorem dX3_callsThatAre_42 : decode cX3_callsThatAre 42 = .ok (.iload_n 2, 1) := by decide +kernel
theorem dX3_callsThatAre_43 : decode cX3_callsThatAre 43 = .ok (.ireturn, 1) := by decide +kernel
theorem dX3_askingsSoFar_0 : decode cX3_askingsSoFar 0 = .ok (.iconst 0, 1) := by decide +kernel
theorem dX3_askingsSoFar_1 : decode cX3_askingsSoFar 1 = .ok (.istore_n 1, 1) := by decide +kernel
theorem dX3_askingsSoFar_2 : decode cX3_askingsSoFar 2 = .ok (.iconst 0, 1) := by decide +kernel
theorem dX3_askingsSoFar_3 : decode cX3_askingsSoFar 3 = .ok (.istore_n 2, 1) := by decide +kernel
theorem dX3_askingsSoFar_4 : decode cX3_askingsSoFar 4 = .ok (.iload_n 2, 1) := by decide +kernel
theorem dX3_askingsSoFar_5 : decode cX3_askingsSoFar 5 = .ok (.aload_n 0, 1) := by decide +kernel
theorem dX3_askingsSoFar_6 : decode cX3_askingsSoFar 6 = .ok (.getfield 10, 3) := by decide +kernel
theorem dX3_askingsSoFar_9 : decode cX3_askingsSoFar 9 = .ok (.invokevirtual 43, 3) := by decide +kernel
theorem dX3_askingsSoFar_12 : decode cX3_askingsSoFar 12 = .ok (.if_icmp .ge 26, 3) := by decide +kernel
theorem dX3_askingsSoFar_15 : decode cX3_askingsSoFar 15 = .ok (.iload_n 1, 1) := by decide +kernel
theorem dX3_askingsSoFar_16 : decode cX3_askingsSoFar 16 = .ok (.aload_n 0, 1) := by decide +kernel
theorem dX3_askingsSoFar_17 : decode cX3_askingsSoFar 17 = .ok (.getfield 10, 3) := by decide +kernel
theorem dX3_askingsSoFar_20 : decode cX3_askingsSoFar 20 = .ok (.iload_n 2, 1) := by decide +kernel
theorem dX3_askingsSoFar_21 : decode cX3_askingsSoFar 21 = .ok (.invokevirtual 151, 3) := by decide +kernel
theorem dX3_askingsSoFar_24 : decode cX3_askingsSoFar 24 = .ok (.checkcast 47, 3) := by decide +kernel
theorem dX3_askingsSoFar_27 : decode cX3_askingsSoFar 27 = .ok (.getfield 158, 3) := by decide +kernel
theorem dX3_askingsSoFar_30 : decode cX3_askingsSoFar 30 = .ok (.iadd, 1) := by decide +kernel
theorem dX3_askingsSoFar_31 : decode cX3_askingsSoFar 31 = .ok (.istore_n 1, 1) := by decide +kernel
theorem dX3_askingsSoFar_32 : decode cX3_askingsSoFar 32 = .ok (.iinc 2 1, 3) := by decide +kernel
theorem dX3_askingsSoFar_35 : decode cX3_askingsSoFar 35 = .ok (.goto (-31), 3) := by decide +kernel
theorem dX3_askingsSoFar_38 : decode cX3_askingsSoFar 38 = .ok (.iload_n 1, 1) := by decide +kernel
theorem dX3_askingsSoFar_39 : decode cX3_askingsSoFar 39 = .ok (.ireturn, 1) := by decide +kernel
theorem dX3_openAskings_0 : decode cX3_openAskings 0 = .ok (.iconst 0, 1) := by decide +kernel
theorem dX3_openAskings_1 : decode cX3_openAskings 1 = .ok (.istore_n 1, 1) := by decide +kernel
theorem dX3_openAskings_2 : decode cX3_openAskings 2 = .ok (.iconst 0, 1) := by decide +kernel
theorem dX3_openAskings_3 : decode cX3_openAskings 3 = .ok (.istore_n 2, 1) := by decide +kernel
theorem dX3_openAskings_4 : decode cX3_openAskings 4 = .ok (.iload_n 2, 1) := by decide +kernel
theorem dX3_openAskings_5 : decode cX3_openAskings 5 = .ok (.aload_n 0, 1) := by decide +kernel
theorem dX3_openAskings_6 : decode cX3_openAskings 6 = .ok (.getfield 10, 3) := by decide +kernel
theorem dX3_openAskings_9 : decode cX3_openAskings 9 = .ok (.invokevirtual 43, 3) := by decide +kernel
theorem dX3_openAskings_12 : decode cX3_openAskings 12 = .ok (.if_icmp .ge 26, 3) := by decide +kernel
theorem dX3_openAskings_15 : decode cX3_openAskings 15 = .ok (.iload_n 1, 1) := by decide +kernel
theorem dX3_openAskings_16 : decode cX3_openAskings 16 = .ok (.aload_n 0, 1) := by decide +kernel
theorem dX3_openAskings_17 : decode cX3_openAskings 17 = .ok (.getfield 10, 3) := by decide +kernel
theorem dX3_openAskings_20 : decode cX3_openAskings 20 = .ok (.iload_n 2, 1) := by decide +kernel
theorem dX3_openAskings_21 : decode cX3_openAskings 21 = .ok (.invokevirtual 151, 3) := by decide +kernel
theorem dX3_openAskings_24 : decode cX3_openAskings 24 = .ok (.checkcast 47, 3) := by decide +kernel
theorem dX3_openAskings_27 : decode cX3_openAskings 27 = .ok (.getfield 80, 3) := by decide +kernel
theorem dX3_openAskings_30 : decode cX3_openAskings 30 = .ok (.iadd, 1) := by decide +kernel
theorem dX3_openAskings_31 : decode cX3_openAskings 31 = .ok (.istore_n 1, 1) := by decide +kernel
theorem dX3_openAskings_32 : decode cX3_openAskings 32 = .ok (.iinc 2 1, 3) := by decide +kernel
theorem dX3_openAskings_35 : decode cX3_openAskings 35 = .ok (.goto (-31), 3) := by decide +kernel
theorem dX3_openAskings_38 : decode cX3_openAskings 38 = .ok (.iload_n 1, 1) := by decide +kernel
theorem dX3_openAskings_39 : decode cX3_openAskings 39 = .ok (.ireturn, 1) := by decide +kernel
theorem dX3_chosen_0 : decode cX3_chosen 0 = .ok (.aload_n 0, 1) := by decide +kernel
theorem dX3_chosen_1 : decode cX3_chosen 1 = .ok (.getfield 29, 3) := by decide +kernel
theorem dX3_chosen_4 : decode cX3_chosen 4 = .ok (.ifCond .ne 9, 3) := by decide +kernel
theorem dX3_chosen_7 : decode cX3_chosen 7 = .ok (.aload_n 0, 1) := by decide +kernel
theorem dX3_chosen_8 : decode cX3_chosen 8 = .ok (.iload_n 2, 1) := by decide +kernel
theorem dX3_chosen_9 : decode cX3_chosen 9 = .ok (.invokevirtual 173, 3) := by decide +kernel
theorem dX3_chosen_12 : decode cX3_chosen 12 = .ok (.areturn, 1) := by decide +kernel
theorem dX3_chosen_13 : decode cX3_chosen 13 = .ok (.aload_n 0, 1) := by decide +kernel
theorem dX3_chosen_14 : decode cX3_chosen 14 = .ok (.getfield 29, 3) := by decide +kernel
theorem dX3_chosen_17 : decode cX3_chosen 17 = .ok (.iconst 2, 1) := by decide +kernel
theorem dX3_chosen_18 : decode cX3_chosen 18 = .ok (.if_icmp .ne 10, 3) := by decide +kernel
theorem dX3_chosen_21 : decode cX3_chosen 21 = .ok (.aload_n 0, 1) := by decide +kernel
theorem dX3_chosen_22 : decode cX3_chosen 22 = .ok (.iload_n 1, 1) := by decide +kernel
theorem dX3_chosen_23 : decode cX3_chosen 23 = .ok (.iload_n 2, 1) := by decide +kernel
theorem dX3_chosen_24 : decode cX3_chosen 24 = .ok (.invokevirtual 176, 3) := by decide +kernel
theorem dX3_chosen_27 : decode cX3_chosen 27 = .ok (.areturn, 1) := by decide +kernel
theorem dX3_chosen_28 : decode cX3_chosen 28 = .ok (.aload_n 0, 1) := by decide +kernel
theorem dX3_chosen_29 : decode cX3_chosen 29 = .ok (.getfield 29, 3) := by decide +kernel
theorem dX3_chosen_32 : decode cX3_chosen 32 = .ok (.iconst 3, 1) := by decide +kernel
theorem dX3_chosen_33 : decode cX3_chosen 33 = .ok (.if_icmp .ne 14, 3) := by decide +kernel
theorem dX3_chosen_36 : decode cX3_chosen 36 = .ok (.aload_n 0, 1) := by decide +kernel
theorem dX3_chosen_37 : decode cX3_chosen 37 = .ok (.iload_n 2, 1) := by decide +kernel
theorem dX3_chosen_38 : decode cX3_chosen 38 = .ok (.iload_n 1, 1) := by decide +kernel
theorem dX3_chosen_39 : decode cX3_chosen 39 = .ok (.iconst 4, 1) := by decide +kernel
theorem dX3_chosen_40 : decode cX3_chosen 40 = .ok (.irem, 1) := by decide +kernel
theorem dX3_chosen_41 : decode cX3_chosen 41 = .ok (.invokevirtual 179, 3) := by decide +kernel
theorem dX3_chosen_44 : decode cX3_chosen 44 = .ok (.goto 4, 3) := by decide +kernel
theorem dX3_chosen_47 : decode cX3_chosen 47 = .ok (.aconst_null, 1) := by decide +kernel
theorem dX3_chosen_48 : decode cX3_chosen 48 = .ok (.astore_n 3, 1) := by decide +kernel
theorem dX3_chosen_49 : decode cX3_chosen 49 = .ok (.aload_n 3, 1) := by decide +kernel
theorem dX3_chosen_50 : decode cX3_chosen 50 = .ok (.ifnull 7, 3) := by decide +kernel
theorem dX3_chosen_53 : decode cX3_chosen 53 = .ok (.aload_n 3, 1) := by decide +kernel
theorem dX3_chosen_54 : decode cX3_chosen 54 = .ok (.goto 9, 3) := by decide +kernel
theorem dX3_chosen_57 : decode cX3_chosen 57 = .ok (.aload_n 0, 1) := by decide +kernel
theorem dX3_chosen_58 : decode cX3_chosen 58 = .ok (.iload_n 2, 1) := by decide +kernel
theorem dX3_chosen_59 : decode cX3_chosen 59 = .ok (.iconst (-1), 1) := by decide +kernel
theorem dX3_chosen_60 : decode cX3_chosen 60 = .ok (.invokevirtual 179, 3) := by decide +kernel
theorem dX3_chosen_63 : decode cX3_chosen 63 = .ok (.areturn, 1) := by decide +kernel
theorem dX3_byTurn_0 : decode cX3_byTurn 0 = .ok (.aconst_null, 1) := by decide +kernel
theorem dX3_byTurn_1 : decode cX3_byTurn 1 = .ok (.astore_n 2, 1) := by decide +kernel
theorem dX3_byTurn_2 : decode cX3_byTurn 2 = .ok (.iconst 0, 1) := by decide +kernel
theorem dX3_byTurn_3 : decode cX3_byTurn 3 = .ok (.istore_n 3, 1) := by decide +kernel
theorem dX3_byTurn_4 : decode cX3_byTurn 4 = .ok (.iload_n 3, 1) := by decide +kernel
theorem dX3_byTurn_5 : decode cX3_byTurn 5 = .ok (.aload_n 0, 1) := by decide +kernel
theorem dX3_byTurn_6 : decode cX3_byTurn 6 = .ok (.getfield 10, 3) := by decide +kernel
theorem dX3_byTurn_9 : decode cX3_byTurn 9 = .ok (.invokevirtual 43, 3) := by decide +kernel
theorem dX3_byTurn_12 : decode cX3_byTurn 12 = .ok (.if_icmp .ge 61, 3) := by decide +kernel
theorem dX3_byTurn_15 : decode cX3_byTurn 15 = .ok (.aload_n 0, 1) := by decide +kernel
theorem dX3_byTurn_16 : decode cX3_byTurn 16 = .ok (.getfield 10, 3) := by decide +kernel
theorem dX3_byTurn_19 : decode cX3_byTurn 19 = .ok (.iload_n 3, 1) := by decide +kernel
theorem dX3_byTurn_20 : decode cX3_byTurn 20 = .ok (.invokevirtual 151, 3) := by decide +kernel
theorem dX3_byTurn_23 : decode cX3_byTurn 23 = .ok (.checkcast 47, 3) := by decide +kernel
theorem dX3_byTurn_26 : decode cX3_byTurn 26 = .ok (.astore 4, 2) := by decide +kernel
theorem dX3_byTurn_28 : decode cX3_byTurn 28 = .ok (.aload 4, 2) := by decide +kernel
theorem dX3_byTurn_30 : decode cX3_byTurn 30 = .ok (.iload_n 1, 1) := by decide +kernel
theorem dX3_byTurn_31 : decode cX3_byTurn 31 = .ok (.invokevirtual 182, 3) := by decide +kernel
theorem dX3_byTurn_34 : decode cX3_byTurn 34 = .ok (.ifCond .eq 33, 3) := by decide +kernel
theorem dX3_byTurn_37 : decode cX3_byTurn 37 = .ok (.aload_n 2, 1) := by decide +kernel
theorem dX3_byTurn_38 : decode cX3_byTurn 38 = .ok (.ifnull 26, 3) := by decide +kernel
theorem dX3_byTurn_41 : decode cX3_byTurn 41 = .ok (.aload 4, 2) := by decide +kernel
theorem dX3_byTurn_43 : decode cX3_byTurn 43 = .ok (.getfield 186, 3) := by decide +kernel
theorem dX3_byTurn_46 : decode cX3_byTurn 46 = .ok (.aload 4, 2) := by decide +kernel
theorem dX3_byTurn_48 : decode cX3_byTurn 48 = .ok (.getfield 189, 3) := by decide +kernel
theorem dX3_byTurn_51 : decode cX3_byTurn 51 = .ok (.iadd, 1) := by decide +kernel
theorem dX3_byTurn_52 : decode cX3_byTurn 52 = .ok (.aload_n 2, 1) := by decide +kernel
theorem dX3_byTurn_53 : decode cX3_byTurn 53 = .ok (.getfield 186, 3) := by decide +kernel
theorem dX3_byTurn_56 : decode cX3_byTurn 56 = .ok (.aload_n 2, 1) := by decide +kernel
theorem dX3_byTurn_57 : decode cX3_byTurn 57 = .ok (.getfield 189, 3) := by decide +kernel
theorem dX3_byTurn_60 : decode cX3_byTurn 60 = .ok (.iadd, 1) := by decide +kernel
theorem dX3_byTurn_61 : decode cX3_byTurn 61 = .ok (.if_icmp .le 6, 3) := by decide +kernel
theorem dX3_byTurn_64 : decode cX3_byTurn 64 = .ok (.aload 4, 2) := by decide +kernel
theorem dX3_byTurn_66 : decode cX3_byTurn 66 = .ok (.astore_n 2, 1) := by decide +kernel
theorem dX3_byTurn_67 : decode cX3_byTurn 67 = .ok (.iinc 3 1, 3) := by decide +kernel
theorem dX3_byTurn_70 : decode cX3_byTurn 70 = .ok (.goto (-66), 3) := by decide +kernel
theorem dX3_byTurn_73 : decode cX3_byTurn 73 = .ok (.aload_n 2, 1) := by decide +kernel
theorem dX3_byTurn_74 : decode cX3_byTurn 74 = .ok (.areturn, 1) := by decide +kernel
theorem dX3_byFewest_0 : decode cX3_byFewest 0 = .ok (.aconst_null, 1) := by decide +kernel
theorem dX3_byFewest_1 : decode cX3_byFewest 1 = .ok (.astore_n 3, 1) := by decide +kernel
theorem dX3_byFewest_2 : decode cX3_byFewest 2 = .ok (.iconst 0, 1) := by decide +kernel
theorem dX3_byFewest_3 : decode cX3_byFewest 3 = .ok (.istore 4, 2) := by decide +kernel
theorem dX3_byFewest_5 : decode cX3_byFewest 5 = .ok (.iload 4, 2) := by decide +kernel
theorem dX3_byFewest_7 : decode cX3_byFewest 7 = .ok (.aload_n 0, 1) := by decide +kernel
theorem dX3_byFewest_8 : decode cX3_byFewest 8 = .ok (.getfield 10, 3) := by decide +kernel
theorem dX3_byFewest_11 : decode cX3_byFewest 11 = .ok (.invokevirtual 43, 3) := by decide +kernel
theorem dX3_byFewest_14 : decode cX3_byFewest 14 = .ok (.if_icmp .ge 88, 3) := by decide +kernel
theorem dX3_byFewest_17 : decode cX3_byFewest 17 = .ok (.aload_n 0, 1) := by decide +kernel
theorem dX3_byFewest_18 : decode cX3_byFewest 18 = .ok (.getfield 10, 3) := by decide +kernel
theorem dX3_byFewest_21 : decode cX3_byFewest 21 = .ok (.iload 4, 2) := by decide +kernel
theorem dX3_byFewest_23 : decode cX3_byFewest 23 = .ok (.invokevirtual 151, 3) := by decide +kernel
theorem dX3_byFewest_26 : decode cX3_byFewest 26 = .ok (.checkcast 47, 3) := by decide +kernel
theorem dX3_byFewest_29 : decode cX3_byFewest 29 = .ok (.astore 5, 2) := by decide +kernel
theorem dX3_byFewest_31 : decode cX3_byFewest 31 = .ok (.iload_n 2, 1) := by decide +kernel
theorem dX3_byFewest_32 : decode cX3_byFewest 32 = .ok (.iconst (-1), 1) := by decide +kernel
theorem dX3_byFewest_33 : decode cX3_byFewest 33 = .ok (.if_icmp .eq 12, 3) := by decide +kernel
theorem dX3_byFewest_36 : decode cX3_byFewest 36 = .ok (.aload 5, 2) := by decide +kernel
theorem dX3_byFewest_38 : decode cX3_byFewest 38 = .ok (.getfield 192, 3) := by decide +kernel
theorem dX3_byFewest_41 : decode cX3_byFewest 41 = .ok (.iload_n 2, 1) := by decide +kernel
theorem dX3_byFewest_42 : decode cX3_byFewest 42 = .ok (.if_icmp .ne 16, 3) := by decide +kernel
theorem dX3_byFewest_45 : decode cX3_byFewest 45 = .ok (.aload 5, 2) := by decide +kernel
theorem dX3_byFewest_47 : decode cX3_byFewest 47 = .ok (.iload_n 1, 1) := by decide +kernel
theorem dX3_byFewest_48 : decode cX3_byFewest 48 = .ok (.invokevirtual 182, 3) := by decide +kernel
theorem dX3_byFewest_51 : decode cX3_byFewest 51 = .ok (.ifCond .eq 7, 3) := by decide +kernel
theorem dX3_byFewest_54 : decode cX3_byFewest 54 = .ok (.iconst 1, 1) := by decide +kernel
theorem dX3_byFewest_55 : decode cX3_byFewest 55 = .ok (.goto 4, 3) := by decide +kernel
theorem dX3_byFewest_58 : decode cX3_byFewest 58 = .ok (.iconst 0, 1) := by decide +kernel
theorem dX3_byFewest_59 : decode cX3_byFewest 59 = .ok (.istore 6, 2) := by decide +kernel
theorem dX3_byFewest_61 : decode cX3_byFewest 61 = .ok (.iload 6, 2) := by decide +kernel
theorem dX3_byFewest_63 : decode cX3_byFewest 63 = .ok (.ifCond .eq 33, 3) := by decide +kernel
theorem dX3_byFewest_66 : decode cX3_byFewest 66 = .ok (.aload_n 3, 1) := by decide +kernel
theorem dX3_byFewest_67 : decode cX3_byFewest 67 = .ok (.ifnull 26, 3) := by decide +kernel
theorem dX3_byFewest_70 : decode cX3_byFewest 70 = .ok (.aload 5, 2) := by decide +kernel
theorem dX3_byFewest_72 : decode cX3_byFewest 72 = .ok (.getfield 80, 3) := by decide +kernel
theorem dX3_byFewest_75 : decode cX3_byFewest 75 = .ok (.aload_n 3, 1) := by decide +kernel
theorem dX3_byFewest_76 : decode cX3_byFewest 76 = .ok (.getfield 189, 3) := by decide +kernel
theorem dX3_byFewest_79 : decode cX3_byFewest 79 = .ok (.imul, 1) := by decide +kernel
theorem dX3_byFewest_80 : decode cX3_byFewest 80 = .ok (.aload_n 3, 1) := by decide +kernel
theorem dX3_byFewest_81 : decode cX3_byFewest 81 = .ok (.getfield 80, 3) := by decide +kernel
theorem dX3_byFewest_84 : decode cX3_byFewest 84 = .ok (.aload 5, 2) := by decide +kernel
theorem dX3_byFewest_86 : decode cX3_byFewest 86 = .ok (.getfield 189, 3) := by decide +kernel
theorem dX3_byFewest_89 : decode cX3_byFewest 89 = .ok (.imul, 1) := by decide +kernel
theorem dX3_byFewest_90 : decode cX3_byFewest 90 = .ok (.if_icmp .ge 6, 3) := by decide +kernel
theorem dX3_byFewest_93 : decode cX3_byFewest 93 = .ok (.aload 5, 2) := by decide +kernel
theorem dX3_byFewest_95 : decode cX3_byFewest 95 = .ok (.astore_n 3, 1) := by decide +kernel
theorem dX3_byFewest_96 : decode cX3_byFewest 96 = .ok (.iinc 4 1, 3) := by decide +kernel
theorem dX3_byFewest_99 : decode cX3_byFewest 99 = .ok (.goto (-94), 3) := by decide +kernel
theorem dX3_byFewest_102 : decode cX3_byFewest 102 = .ok (.aload_n 3, 1) := by decide +kernel
theorem dX3_byFewest_103 : decode cX3_byFewest 103 = .ok (.areturn, 1) := by decide +kernel
theorem dX3_byRing_0 : decode cX3_byRing 0 = .ok (.aconst_null, 1) := by decide +kernel
theorem dX3_byRing_1 : decode cX3_byRing 1 = .ok (.astore_n 3, 1) := by decide +kernel
theorem dX3_byRing_2 : decode cX3_byRing 2 = .ok (.ldc 195, 2) := by decide +kernel
theorem dX3_byRing_4 : decode cX3_byRing 4 = .ok (.istore 4, 2) := by decide +kernel
theorem dX3_byRing_6 : decode cX3_byRing 6 = .ok (.iconst 0, 1) := by decide +kernel
theorem dX3_byRing_7 : decode cX3_byRing 7 = .ok (.istore 5, 2) := by decide +kernel
theorem dX3_byRing_9 : decode cX3_byRing 9 = .ok (.iload 5, 2) := by decide +kernel
theorem dX3_byRing_11 : decode cX3_byRing 11 = .ok (.aload_n 0, 1) := by decide +kernel
theorem dX3_byRing_12 : decode cX3_byRing 12 = .ok (.getfield 10, 3) := by decide +kernel
theorem dX3_byRing_15 : decode cX3_byRing 15 = .ok (.invokevirtual 43, 3) := by decide +kernel
theorem dX3_byRing_18 : decode cX3_byRing 18 = .ok (.if_icmp .ge 54, 3) := by decide +kernel
theorem dX3_byRing_21 : decode cX3_byRing 21 = .ok (.aload_n 0, 1) := by decide +kernel
theorem dX3_byRing_22 : decode cX3_byRing 22 = .ok (.getfield 10, 3) := by decide +kernel
theorem dX3_byRing_25 : decode cX3_byRing 25 = .ok (.iload 5, 2) := by decide +kernel
theorem dX3_byRing_27 : decode cX3_byRing 27 = .ok (.invokevirtual 151, 3) := by decide +kernel
theorem dX3_byRing_30 : decode cX3_byRing 30 = .ok (.checkcast 47, 3) := by decide +kernel
theorem dX3_byRing_33 : decode cX3_byRing 33 = .ok (.astore 6, 2) := by decide +kernel
theorem dX3_byRing_35 : decode cX3_byRing 35 = .ok (.aload 6, 2) := by decide +kernel
theorem dX3_byRing_37 : decode cX3_byRing 37 = .ok (.iload_n 2, 1) := by decide +kernel
theorem dX3_byRing_38 : decode cX3_byRing 38 = .ok (.invokevirtual 182, 3) := by decide +kernel
theorem dX3_byRing_41 : decode cX3_byRing 41 = .ok (.ifCond .eq 25, 3) := by decide +kernel
theorem dX3_byRing_44 : decode cX3_byRing 44 = .ok (.aload 6, 2) := by decide +kernel
theorem dX3_byRing_46 : decode cX3_byRing 46 = .ok (.iload_n 1, 1) := by decide +kernel
theorem dX3_byRing_47 : decode cX3_byRing 47 = .ok (.invokevirtual 196, 3) := by decide +kernel
theorem dX3_byRing_50 : decode cX3_byRing 50 = .ok (.iload 4, 2) := by decide +kernel
theorem dX3_byRing_52 : decode cX3_byRing 52 = .ok (.if_icmp .ge 14, 3) := by decide +kernel
theorem dX3_byRing_55 : decode cX3_byRing 55 = .ok (.aload 6, 2) := by decide +kernel
theorem dX3_byRing_57 : decode cX3_byRing 57 = .ok (.astore_n 3, 1) := by decide +kernel
theorem dX3_byRing_58 : decode cX3_byRing 58 = .ok (.aload 6, 2) := by decide +kernel
theorem dX3_byRing_60 : decode cX3_byRing 60 = .ok (.iload_n 1, 1) := by decide +kernel
theorem dX3_byRing_61 : decode cX3_byRing 61 = .ok (.invokevirtual 196, 3) := by decide +kernel
theorem dX3_byRing_64 : decode cX3_byRing 64 = .ok (.istore 4, 2) := by decide +kernel
theorem dX3_byRing_66 : decode cX3_byRing 66 = .ok (.iinc 5 1, 3) := by decide +kernel
theorem dX3_byRing_69 : decode cX3_byRing 69 = .ok (.goto (-60), 3) := by decide +kernel
theorem dX3_byRing_72 : decode cX3_byRing 72 = .ok (.aload_n 3, 1) := by decide +kernel
theorem dX3_byRing_73 : decode cX3_byRing 73 = .ok (.areturn, 1) := by decide +kernel
theorem dX3_settleCredits_0 : decode cX3_settleCredits 0 = .ok (.iconst 0, 1) := by decide +kernel
theorem dX3_settleCredits_1 : decode cX3_settleCredits 1 = .ok (.istore_n 3, 1) := by decide +kernel
theorem dX3_settleCredits_2 : decode cX3_settleCredits 2 = .ok (.iconst 0, 1) := by decide +kernel
theorem dX3_settleCredits_3 : decode cX3_settleCredits 3 = .ok (.istore 4, 2) := by decide +kernel
theorem dX3_settleCredits_5 : decode cX3_settleCredits 5 = .ok (.iload 4, 2) := by decide +kernel
theorem dX3_settleCredits_7 : decode cX3_settleCredits 7 = .ok (.aload_n 0, 1) := by decide +kernel
theorem dX3_settleCredits_8 : decode cX3_settleCredits 8 = .ok (.getfield 10, 3) := by decide +kernel
theorem dX3_settleCredits_11 : decode cX3_settleCredits 11 = .ok (.invokevirtual 43, 3) := by decide +kernel
theorem dX3_settleCredits_14 : decode cX3_settleCredits 14 = .ok (.if_icmp .ge 55, 3) := by decide +kernel
theorem dX3_settleCredits_17 : decode cX3_settleCredits 17 = .ok (.aload_n 0, 1) := by decide +kernel
theorem dX3_settleCredits_18 : decode cX3_settleCredits 18 = .ok (.getfield 10, 3) := by decide +kernel
theorem dX3_settleCredits_21 : decode cX3_settleCredits 21 = .ok (.iload 4, 2) := by decide +kernel
theorem dX3_settleCredits_23 : decode cX3_settleCredits 23 = .ok (.invokevirtual 151, 3) := by decide +kernel
theorem dX3_settleCredits_26 : decode cX3_settleCredits 26 = .ok (.checkcast 47, 3) := by decide +kernel
theorem dX3_settleCredits_29 : decode cX3_settleCredits 29 = .ok (.astore 5, 2) := by decide +kernel
theorem dX3_settleCredits_31 : decode cX3_settleCredits 31 = .ok (.aload 5, 2) := by decide +kernel
theorem dX3_settleCredits_33 : decode cX3_settleCredits 33 = .ok (.iload_n 1, 1) := by decide +kernel
theorem dX3_settleCredits_34 : decode cX3_settleCredits 34 = .ok (.invokevirtual 182, 3) := by decide +kernel
theorem dX3_settleCredits_37 : decode cX3_settleCredits 37 = .ok (.ifCond .eq 26, 3) := by decide +kernel
theorem dX3_settleCredits_40 : decode cX3_settleCredits 40 = .ok (.aload 5, 2) := by decide +kernel
theorem dX3_settleCredits_42 : decode cX3_settleCredits 42 = .ok (.dup, 1) := by decide +kernel
theorem dX3_settleCredits_43 : decode cX3_settleCredits 43 = .ok (.getfield 186, 3) := by decide +kernel
theorem dX3_settleCredits_46 : decode cX3_settleCredits 46 = .ok (.aload 5, 2) := by decide +kernel
theorem dX3_settleCredits_48 : decode cX3_settleCredits 48 = .ok (.getfield 189, 3) := by decide +kernel
theorem dX3_settleCredits_51 : decode cX3_settleCredits 51 = .ok (.iadd, 1) := by decide +kernel
theorem dX3_settleCredits_52 : decode cX3_settleCredits 52 = .ok (.putfield 186, 3) := by decide +kernel
theorem dX3_settleCredits_55 : decode cX3_settleCredits 55 = .ok (.iload_n 3, 1) := by decide +kernel
theorem dX3_settleCredits_56 : decode cX3_settleCredits 56 = .ok (.aload 5, 2) := by decide +kernel
theorem dX3_settleCredits_58 : decode cX3_settleCredits 58 = .ok (.getfield 189, 3) := by decide +kernel
theorem dX3_settleCredits_61 : decode cX3_settleCredits 61 = .ok (.iadd, 1) := by decide +kernel
theorem dX3_settleCredits_62 : decode cX3_settleCredits 62 = .ok (.istore_n 3, 1) := by decide +kernel
theorem dX3_settleCredits_63 : decode cX3_settleCredits 63 = .ok (.iinc 4 1, 3) := by decide +kernel
theorem dX3_settleCredits_66 : decode cX3_settleCredits 66 = .ok (.goto (-61), 3) := by decide +kernel
theorem dX3_settleCredits_69 : decode cX3_settleCredits 69 = .ok (.aload_n 2, 1) := by decide +kernel
theorem dX3_settleCredits_70 : decode cX3_settleCredits 70 = .ok (.dup, 1) := by decide +kernel
theorem dX3_settleCredits_71 : decode cX3_settleCredits 71 = .ok (.getfield 186, 3) := by decide +kernel
theorem dX3_settleCredits_74 : decode cX3_settleCredits 74 = .ok (.iload_n 3, 1) := by decide +kernel
theorem dX3_settleCredits_75 : decode cX3_settleCredits 75 = .ok (.isub, 1) := by decide +kernel
theorem dX3_settleCredits_76 : decode cX3_settleCredits 76 = .ok (.putfield 186, 3) := by decide +kernel
theorem dX3_settleCredits_79 : decode cX3_settleCredits 79 = .ok (.return_, 1) := by decide +kernel
theorem dX3_askByRule_0 : decode cX3_askByRule 0 = .ok (.aload_n 0, 1) := by decide +kernel
theorem dX3_askByRule_1 : decode cX3_askByRule 1 = .ok (.aload_n 1, 1) := by decide +kernel
theorem dX3_askByRule_2 : decode cX3_askByRule 2 = .ok (.getfield 199, 3) := by decide +kernel
theorem dX3_askByRule_5 : decode cX3_askByRule 5 = .ok (.aload_n 1, 1) := by decide +kernel
theorem dX3_askByRule_6 : decode cX3_askByRule 6 = .ok (.getfield 202, 3) := by decide +kernel
theorem dX3_askByRule_9 : decode cX3_askByRule 9 = .ok (.invokevirtual 140, 3) := by decide +kernel
theorem dX3_askByRule_12 : decode cX3_askByRule 12 = .ok (.astore_n 2, 1) := by decide +kernel
theorem dX3_askByRule_13 : decode cX3_askByRule 13 = .ok (.aload_n 2, 1) := by decide +kernel
theorem dX3_askByRule_14 : decode cX3_askByRule 14 = .ok (.ifnonnull 5, 3) := by decide +kernel
theorem dX3_askByRule_17 : decode cX3_askByRule 17 = .ok (.iconst 0, 1) := by decide +kernel
theorem dX3_askByRule_18 : decode cX3_askByRule 18 = .ok (.ireturn, 1) := by decide +kernel
theorem dX3_askByRule_19 : decode cX3_askByRule 19 = .ok (.aload_n 0, 1) := by decide +kernel
theorem dX3_askByRule_20 : decode cX3_askByRule 20 = .ok (.getfield 29, 3) := by decide +kernel
theorem dX3_askByRule_23 : decode cX3_askByRule 23 = .ok (.ifCond .ne 12, 3) := by decide +kernel
theorem dX3_askByRule_26 : decode cX3_askByRule 26 = .ok (.aload_n 0, 1) := by decide +kernel
theorem dX3_askByRule_27 : decode cX3_askByRule 27 = .ok (.aload_n 1, 1) := by decide +kernel
theorem dX3_askByRule_28 : decode cX3_askByRule 28 = .ok (.getfield 202, 3) := by decide +kernel
theorem dX3_askByRule_31 : decode cX3_askByRule 31 = .ok (.aload_n 2, 1) := by decide +kernel
theorem dX3_askByRule_32 : decode cX3_askByRule 32 = .ok (.invokevirtual 205, 3) := by decide +kernel
theorem dX3_askByRule_35 : decode cX3_askByRule 35 = .ok (.aload_n 1, 1) := by decide +kernel
theorem dX3_askByRule_36 : decode cX3_askByRule 36 = .ok (.aload_n 2, 1) := by decide +kernel
theorem dX3_askByRule_37 : decode cX3_askByRule 37 = .ok (.aload_n 0, 1) := by decide +kernel
theorem dX3_askByRule_38 : decode cX3_askByRule 38 = .ok (.getfield 95, 3) := by decide +kernel
theorem dX3_askByRule_41 : decode cX3_askByRule 41 = .ok (.invokevirtual 209, 3) := by decide +kernel
theorem dX3_askByRule_44 : decode cX3_askByRule 44 = .ok (.invokevirtual 213, 3) := by decide +kernel
theorem dX3_askByRule_47 : decode cX3_askByRule 47 = .ok (.iconst 1, 1) := by decide +kernel
theorem dX3_askByRule_48 : decode cX3_askByRule 48 = .ok (.ireturn, 1) := by decide +kernel
theorem dX3_joinLine_0 : decode cX3_joinLine 0 = .ok (.aload_n 1, 1) := by decide +kernel
theorem dX3_joinLine_1 : decode cX3_joinLine 1 = .ok (.iconst 0, 1) := by decide +kernel
theorem dX3_joinLine_2 : decode cX3_joinLine 2 = .ok (.putfield 118, 3) := by decide +kernel
theorem dX3_joinLine_5 : decode cX3_joinLine 5 = .ok (.iconst 0, 1) := by decide +kernel
theorem dX3_joinLine_6 : decode cX3_joinLine 6 = .ok (.istore_n 2, 1) := by decide +kernel
theorem dX3_joinLine_7 : decode cX3_joinLine 7 = .ok (.iload_n 2, 1) := by decide +kernel
theorem dX3_joinLine_8 : decode cX3_joinLine 8 = .ok (.aload_n 0, 1) := by decide +kernel
theorem dX3_joinLine_9 : decode cX3_joinLine 9 = .ok (.getfield 22, 3) := by decide +kernel
theorem dX3_joinLine_12 : decode cX3_joinLine 12 = .ok (.invokevirtual 43, 3) := by decide +kernel
theorem dX3_joinLine_15 : decode cX3_joinLine 15 = .ok (.if_icmp .ge 27, 3) := by decide +kernel
theorem dX3_joinLine_18 : decode cX3_joinLine 18 = .ok (.aload_n 0, 1) := by decide +kernel
theorem dX3_joinLine_19 : decode cX3_joinLine 19 = .ok (.getfield 22, 3) := by decide +kernel
theorem dX3_joinLine_22 : decode cX3_joinLine 22 = .ok (.iload_n 2, 1) := by decide +kernel
theorem dX3_joinLine_23 : decode cX3_joinLine 23 = .ok (.invokevirtual 151, 3) := by decide +kernel
theorem dX3_joinLine_26 : decode cX3_joinLine 26 = .ok (.checkcast 93, 3) := by decide +kernel
theorem dX3_joinLine_29 : decode cX3_joinLine 29 = .ok (.aload_n 1, 1) := by decide +kernel
theorem dX3_joinLine_30 : decode cX3_joinLine 30 = .ok (.invokevirtual 217, 3) := by decide +kernel
theorem dX3_joinLine_33 : decode cX3_joinLine 33 = .ok (.ifCond .eq 9, 3) := by decide +kernel
theorem dX3_joinLine_36 : decode cX3_joinLine 36 = .ok (.iinc 2 1, 3) := by decide +kernel
theorem dX3_joinLine_39 : decode cX3_joinLine 39 = .ok (.goto (-32), 3) := by decide +kernel
theorem dX3_joinLine_42 : decode cX3_joinLine 42 = .ok (.aload_n 0, 1) := by decide +kernel
theorem dX3_joinLine_43 : decode cX3_joinLine 43 = .ok (.getfield 22, 3) := by decide +kernel
theorem dX3_joinLine_46 : decode cX3_joinLine 46 = .ok (.iload_n 2, 1) := by decide +kernel
theorem dX3_joinLine_47 : decode cX3_joinLine 47 = .ok (.aload_n 1, 1) := by decide +kernel
theorem dX3_joinLine_48 : decode cX3_joinLine 48 = .ok (.invokevirtual 220, 3) := by decide +kernel
theorem dX3_joinLine_51 : decode cX3_joinLine 51 = .ok (.return_, 1) := by decide +kernel
theorem dX3_leaveLine_0 : decode cX3_leaveLine 0 = .ok (.iconst 0, 1) := by decide +kernel
theorem dX3_leaveLine_1 : decode cX3_leaveLine 1 = .ok (.istore_n 2, 1) := by decide +kernel
theorem dX3_leaveLine_2 : decode cX3_leaveLine 2 = .ok (.iload_n 2, 1) := by decide +kernel
theorem dX3_leaveLine_3 : decode cX3_leaveLine 3 = .ok (.aload_n 0, 1) := by decide +kernel
theorem dX3_leaveLine_4 : decode cX3_leaveLine 4 = .ok (.getfield 22, 3) := by decide +kernel
theorem dX3_leaveLine_7 : decode cX3_leaveLine 7 = .ok (.invokevirtual 43, 3) := by decide +kernel
theorem dX3_leaveLine_10 : decode cX3_leaveLine 10 = .ok (.if_icmp .ge 40, 3) := by decide +kernel
theorem dX3_leaveLine_13 : decode cX3_leaveLine 13 = .ok (.aload_n 0, 1) := by decide +kernel
theorem dX3_leaveLine_14 : decode cX3_leaveLine 14 = .ok (.getfield 22, 3) := by decide +kernel
theorem dX3_leaveLine_17 : decode cX3_leaveLine 17 = .ok (.iload_n 2, 1) := by decide +kernel
theorem dX3_leaveLine_18 : decode cX3_leaveLine 18 = .ok (.invokevirtual 151, 3) := by decide +kernel
theorem dX3_leaveLine_21 : decode cX3_leaveLine 21 = .ok (.checkcast 93, 3) := by decide +kernel
theorem dX3_leaveLine_24 : decode cX3_leaveLine 24 = .ok (.getfield 109, 3) := by decide +kernel
theorem dX3_leaveLine_27 : decode cX3_leaveLine 27 = .ok (.aload_n 1, 1) := by decide +kernel
theorem dX3_leaveLine_28 : decode cX3_leaveLine 28 = .ok (.getfield 109, 3) := by decide +kernel
theorem dX3_leaveLine_31 : decode cX3_leaveLine 31 = .ok (.if_icmp .ne 13, 3) := by decide +kernel
theorem dX3_leaveLine_34 : decode cX3_leaveLine 34 = .ok (.aload_n 0, 1) := by decide +kernel
theorem dX3_leaveLine_35 : decode cX3_leaveLine 35 = .ok (.getfield 22, 3) := by decide +kernel
theorem dX3_leaveLine_38 : decode cX3_leaveLine 38 = .ok (.iload_n 2, 1) := by decide +kernel
theorem dX3_leaveLine_39 : decode cX3_leaveLine 39 = .ok (.invokevirtual 223, 3) := by decide +kernel
theorem dX3_leaveLine_42 : decode cX3_leaveLine 42 = .ok (.pop, 1) := by decide +kernel
theorem dX3_leaveLine_43 : decode cX3_leaveLine 43 = .ok (.return_, 1) := by decide +kernel
theorem dX3_leaveLine_44 : decode cX3_leaveLine 44 = .ok (.iinc 2 1, 3) := by decide +kernel
theorem dX3_leaveLine_47 : decode cX3_leaveLine 47 = .ok (.goto (-45), 3) := by decide +kernel
theorem dX3_leaveLine_50 : decode cX3_leaveLine 50 = .ok (.return_, 1) := by decide +kernel
theorem dX3_end_0 : decode cX3_end 0 = .ok (.aload_n 1, 1) := by decide +kernel
theorem dX3_end_1 : decode cX3_end 1 = .ok (.iload_n 2, 1) := by decide +kernel
theorem dX3_end_2 : decode cX3_end 2 = .ok (.putfield 118, 3) := by decide +kernel
theorem dX3_end_5 : decode cX3_end 5 = .ok (.aload_n 1, 1) := by decide +kernel
theorem dX3_end_6 : decode cX3_end 6 = .ok (.aload_n 0, 1) := by decide +kernel
theorem dX3_end_7 : decode cX3_end 7 = .ok (.getfield 95, 3) := by decide +kernel
theorem dX3_end_10 : decode cX3_end 10 = .ok (.putfield 226, 3) := by decide +kernel
theorem dX3_end_13 : decode cX3_end 13 = .ok (.aload_n 0, 1) := by decide +kernel
theorem dX3_end_14 : decode cX3_end 14 = .ok (.dup, 1) := by decide +kernel
theorem dX3_end_15 : decode cX3_end 15 = .ok (.getfield 134, 3) := by decide +kernel
theorem dX3_end_18 : decode cX3_end 18 = .ok (.iconst 1, 1) := by decide +kernel
theorem dX3_end_19 : decode cX3_end 19 = .ok (.iadd, 1) := by decide +kernel
theorem dX3_end_20 : decode cX3_end 20 = .ok (.putfield 134, 3) := by decide +kernel
theorem dX3_end_23 : decode cX3_end 23 = .ok (.return_, 1) := by decide +kernel
theorem dX3_dropEnded_0 : decode cX3_dropEnded 0 = .ok (.aload_n 0, 1) := by decide +kernel
theorem dX3_dropEnded_1 : decode cX3_dropEnded 1 = .ok (.getfield 19, 3) := by decide +kernel
theorem dX3_dropEnded_4 : decode cX3_dropEnded 4 = .ok (.invokevirtual 43, 3) := by decide +kernel
theorem dX3_dropEnded_7 : decode cX3_dropEnded 7 = .ok (.iconst 1, 1) := by decide +kernel
theorem dX3_dropEnded_8 : decode cX3_dropEnded 8 = .ok (.isub, 1) := by decide +kernel
theorem dX3_dropEnded_9 : decode cX3_dropEnded 9 = .ok (.istore_n 1, 1) := by decide +kernel
theorem dX3_dropEnded_10 : decode cX3_dropEnded 10 = .ok (.iload_n 1, 1) := by decide +kernel
theorem dX3_dropEnded_11 : decode cX3_dropEnded 11 = .ok (.ifCond .lt 35, 3) := by decide +kernel
theorem dX3_dropEnded_14 : decode cX3_dropEnded 14 = .ok (.aload_n 0, 1) := by decide +kernel
theorem dX3_dropEnded_15 : decode cX3_dropEnded 15 = .ok (.getfield 19, 3) := by decide +kernel
theorem dX3_dropEnded_18 : decode cX3_dropEnded 18 = .ok (.iload_n 1, 1) := by decide +kernel
theorem dX3_dropEnded_19 : decode cX3_dropEnded 19 = .ok (.invokevirtual 151, 3) := by decide +kernel
theorem dX3_dropEnded_22 : decode cX3_dropEnded 22 = .ok (.checkcast 93, 3) := by decide +kernel
theorem dX3_dropEnded_25 : decode cX3_dropEnded 25 = .ok (.invokevirtual 114, 3) := by decide +kernel
theorem dX3_dropEnded_28 : decode cX3_dropEnded 28 = .ok (.ifCond .eq 12, 3) := by decide +kernel
theorem dX3_dropEnded_31 : decode cX3_dropEnded 31 = .ok (.aload_n 0, 1) := by decide +kernel
theorem dX3_dropEnded_32 : decode cX3_dropEnded 32 = .ok (.getfield 19, 3) := by decide +kernel
theorem dX3_dropEnded_35 : decode cX3_dropEnded 35 = .ok (.iload_n 1, 1) := by decide +kernel
theorem dX3_dropEnded_36 : decode cX3_dropEnded 36 = .ok (.invokevirtual 223, 3) := by decide +kernel
theorem dX3_dropEnded_39 : decode cX3_dropEnded 39 = .ok (.pop, 1) := by decide +kernel
theorem dX3_dropEnded_40 : decode cX3_dropEnded 40 = .ok (.iinc 1 (-1), 3) := by decide +kernel
theorem dX3_dropEnded_43 : decode cX3_dropEnded 43 = .ok (.goto (-33), 3) := by decide +kernel
theorem dX3_dropEnded_46 : decode cX3_dropEnded 46 = .ok (.return_, 1) := by decide +kernel
theorem dX3_passTick_0 : decode cX3_passTick 0 = .ok (.aload_n 0, 1) := by decide +kernel
theorem dX3_passTick_1 : decode cX3_passTick 1 = .ok (.dup, 1) := by decide +kernel
theorem dX3_passTick_2 : decode cX3_passTick 2 = .ok (.getfield 95, 3) := by decide +kernel
theorem dX3_passTick_5 : decode cX3_passTick 5 = .ok (.iconst 1, 1) := by decide +kernel
theorem dX3_passTick_6 : decode cX3_passTick 6 = .ok (.iadd, 1) := by decide +kernel
theorem dX3_passTick_7 : decode cX3_passTick 7 = .ok (.putfield 95, 3) := by decide +kernel
theorem dX3_passTick_10 : decode cX3_passTick 10 = .ok (.aload_n 0, 1) := by decide +kernel
theorem dX3_passTick_11 : decode cX3_passTick 11 = .ok (.invokevirtual 229, 3) := by decide +kernel
theorem dX3_passTick_14 : decode cX3_passTick 14 = .ok (.aload_n 0, 1) := by decide +kernel
theorem dX3_passTick_15 : decode cX3_passTick 15 = .ok (.invokevirtual 232, 3) := by decide +kernel
theorem dX3_passTick_18 : decode cX3_passTick 18 = .ok (.aload_n 0, 1) := by decide +kernel
theorem dX3_passTick_19 : decode cX3_passTick 19 = .ok (.invokevirtual 131, 3) := by decide +kernel
theorem dX3_passTick_22 : decode cX3_passTick 22 = .ok (.aload_n 0, 1) := by decide +kernel
theorem dX3_passTick_23 : decode cX3_passTick 23 = .ok (.invokevirtual 235, 3) := by decide +kernel
theorem dX3_passTick_26 : decode cX3_passTick 26 = .ok (.aload_n 0, 1) := by decide +kernel
theorem dX3_passTick_27 : decode cX3_passTick 27 = .ok (.invokevirtual 238, 3) := by decide +kernel
theorem dX3_passTick_30 : decode cX3_passTick 30 = .ok (.aload_n 0, 1) := by decide +kernel
theorem dX3_passTick_31 : decode cX3_passTick 31 = .ok (.invokevirtual 241, 3) := by decide +kernel
theorem dX3_passTick_34 : decode cX3_passTick 34 = .ok (.aload_n 0, 1) := by decide +kernel
theorem dX3_passTick_35 : decode cX3_passTick 35 = .ok (.invokevirtual 244, 3) := by decide +kernel
theorem dX3_passTick_38 : decode cX3_passTick 38 = .ok (.return_, 1) := by decide +kernel
theorem dX3_takeWhatIsOver_0 : decode cX3_takeWhatIsOver 0 = .ok (.iconst 0, 1) := by decide +kernel
theorem dX3_takeWhatIsOver_1 : decode cX3_takeWhatIsOver 1 = .ok (.istore_n 1, 1) := by decide +kernel
theorem dX3_takeWhatIsOver_2 : decode cX3_takeWhatIsOver 2 = .ok (.iload_n 1, 1) := by decide +kernel
theorem dX3_takeWhatIsOver_3 : decode cX3_takeWhatIsOver 3 = .ok (.aload_n 0, 1) := by decide +kernel
theorem dX3_takeWhatIsOver_4 : decode cX3_takeWhatIsOver 4 = .ok (.getfield 19, 3) := by decide +kernel
theorem dX3_takeWhatIsOver_7 : decode cX3_takeWhatIsOver 7 = .ok (.invokevirtual 43, 3) := by decide +kernel
theorem dX3_takeWhatIsOver_10 : decode cX3_takeWhatIsOver 10 = .ok (.if_icmp .ge 85, 3) := by decide +kernel
theorem dX3_takeWhatIsOver_13 : decode cX3_takeWhatIsOver 13 = .ok (.aload_n 0, 1) := by decide +kernel
theorem dX3_takeWhatIsOver_14 : decode cX3_takeWhatIsOver 14 = .ok (.getfield 19, 3) := by decide +kernel
theorem dX3_takeWhatIsOver_17 : decode cX3_takeWhatIsOver 17 = .ok (.iload_n 1, 1) := by decide +kernel
theorem dX3_takeWhatIsOver_18 : decode cX3_takeWhatIsOver 18 = .ok (.invokevirtual 151, 3) := by decide +kernel
theorem dX3_takeWhatIsOver_21 : decode cX3_takeWhatIsOver 21 = .ok (.checkcast 93, 3) := by decide +kernel
theorem dX3_takeWhatIsOver_24 : decode cX3_takeWhatIsOver 24 = .ok (.astore_n 2, 1) := by decide +kernel
theorem dX3_takeWhatIsOver_25 : decode cX3_takeWhatIsOver 25 = .ok (.aload_n 2, 1) := by decide +kernel
theorem dX3_takeWhatIsOver_26 : decode cX3_takeWhatIsOver 26 = .ok (.getfield 247, 3) := by decide +kernel
theorem dX3_takeWhatIsOver_29 : decode cX3_takeWhatIsOver 29 = .ok (.astore_n 3, 1) := by decide +kernel
theorem dX3_takeWhatIsOver_30 : decode cX3_takeWhatIsOver 30 = .ok (.aload_n 2, 1) := by decide +kernel
theorem dX3_takeWhatIsOver_31 : decode cX3_takeWhatIsOver 31 = .ok (.getfield 251, 3) := by decide +kernel
theorem dX3_takeWhatIsOver_34 : decode cX3_takeWhatIsOver 34 = .ok (.astore 4, 2) := by decide +kernel
theorem dX3_takeWhatIsOver_36 : decode cX3_takeWhatIsOver 36 = .ok (.aload_n 3, 1) := by decide +kernel
theorem dX3_takeWhatIsOver_37 : decode cX3_takeWhatIsOver 37 = .ok (.ifnull 20, 3) := by decide +kernel
theorem dX3_takeWhatIsOver_40 : decode cX3_takeWhatIsOver 40 = .ok (.aload_n 3, 1) := by decide +kernel
theorem dX3_takeWhatIsOver_41 : decode cX3_takeWhatIsOver 41 = .ok (.getfield 254, 3) := by decide +kernel
theorem dX3_takeWhatIsOver_44 : decode cX3_takeWhatIsOver 44 = .ok (.aload_n 0, 1) := by decide +kernel
theorem dX3_takeWhatIsOver_45 : decode cX3_takeWhatIsOver 45 = .ok (.getfield 95, 3) := by decide +kernel
theorem dX3_takeWhatIsOver_48 : decode cX3_takeWhatIsOver 48 = .ok (.if_icmp .ne 9, 3) := by decide +kernel
theorem dX3_takeWhatIsOver_51 : decode cX3_takeWhatIsOver 51 = .ok (.aload_n 0, 1) := by decide +kernel
theorem dX3_takeWhatIsOver_52 : decode cX3_takeWhatIsOver 52 = .ok (.aload_n 2, 1) := by decide +kernel
theorem dX3_takeWhatIsOver_53 : decode cX3_takeWhatIsOver 53 = .ok (.aload_n 3, 1) := by decide +kernel
theorem dX3_takeWhatIsOver_54 : decode cX3_takeWhatIsOver 54 = .ok (.invokevirtual 259, 3) := by decide +kernel
theorem dX3_takeWhatIsOver_57 : decode cX3_takeWhatIsOver 57 = .ok (.aload 4, 2) := by decide +kernel
theorem dX3_takeWhatIsOver_59 : decode cX3_takeWhatIsOver 59 = .ok (.ifnull 30, 3) := by decide +kernel
theorem dX3_takeWhatIsOver_62 : decode cX3_takeWhatIsOver 62 = .ok (.aload 4, 2) := by decide +kernel
theorem dX3_takeWhatIsOver_64 : decode cX3_takeWhatIsOver 64 = .ok (.getfield 254, 3) := by decide +kernel
theorem dX3_takeWhatIsOver_67 : decode cX3_takeWhatIsOver 67 = .ok (.aload_n 0, 1) := by decide +kernel
theorem dX3_takeWhatIsOver_68 : decode cX3_takeWhatIsOver 68 = .ok (.getfield 95, 3) := by decide +kernel
theorem dX3_takeWhatIsOver_71 : decode cX3_takeWhatIsOver 71 = .ok (.if_icmp .ne 18, 3) := by decide +kernel
theorem dX3_takeWhatIsOver_74 : decode cX3_takeWhatIsOver 74 = .ok (.aload_n 2, 1) := by decide +kernel
theorem dX3_takeWhatIsOver_75 : decode cX3_takeWhatIsOver 75 = .ok (.getfield 118, 3) := by decide +kernel
theorem dX3_takeWhatIsOver_78 : decode cX3_takeWhatIsOver 78 = .ok (.iconst 1, 1) := by decide +kernel
theorem dX3_takeWhatIsOver_79 : decode cX3_takeWhatIsOver 79 = .ok (.if_icmp .ne 10, 3) := by decide +kernel
theorem dX3_takeWhatIsOver_82 : decode cX3_takeWhatIsOver 82 = .ok (.aload_n 0, 1) := by decide +kernel
theorem dX3_takeWhatIsOver_83 : decode cX3_takeWhatIsOver 83 = .ok (.aload_n 2, 1) := by decide +kernel
theorem dX3_takeWhatIsOver_84 : decode cX3_takeWhatIsOver 84 = .ok (.aload 4, 2) := by decide +kernel
theorem dX3_takeWhatIsOver_86 : decode cX3_takeWhatIsOver 86 = .ok (.invokevirtual 259, 3) := by decide +kernel
theorem dX3_takeWhatIsOver_89 : decode cX3_takeWhatIsOver 89 = .ok (.iinc 1 1, 3) := by decide +kernel
theorem dX3_takeWhatIsOver_92 : decode cX3_takeWhatIsOver 92 = .ok (.goto (-90), 3) := by decide +kernel
theorem dX3_takeWhatIsOver_95 : decode cX3_takeWhatIsOver 95 = .ok (.return_, 1) := by decide +kernel
theorem dX3_takeAnswer_0 : decode cX3_takeAnswer 0 = .ok (.aload_n 2, 1) := by decide +kernel
theorem dX3_takeAnswer_1 : decode cX3_takeAnswer 1 = .ok (.getfield 263, 3) := by decide +kernel
theorem dX3_takeAnswer_4 : decode cX3_takeAnswer 4 = .ok (.ifCond .ne 32, 3) := by decide +kernel
theorem dX3_takeAnswer_7 : decode cX3_takeAnswer 7 = .ok (.aload_n 2, 1) := by decide +kernel
theorem dX3_takeAnswer_8 : decode cX3_takeAnswer 8 = .ok (.getfield 267, 3) := by decide +kernel
theorem dX3_takeAnswer_11 : decode cX3_takeAnswer 11 = .ok (.invokevirtual 271, 3) := by decide +kernel
theorem dX3_takeAnswer_14 : decode cX3_takeAnswer 14 = .ok (.aload_n 1, 1) := by decide +kernel
theorem dX3_takeAnswer_15 : decode cX3_takeAnswer 15 = .ok (.aload_n 2, 1) := by decide +kernel
theorem dX3_takeAnswer_16 : decode cX3_takeAnswer 16 = .ok (.getfield 267, 3) := by decide +kernel
theorem dX3_takeAnswer_19 : decode cX3_takeAnswer 19 = .ok (.getfield 56, 3) := by decide +kernel
theorem dX3_takeAnswer_22 : decode cX3_takeAnswer 22 = .ok (.putfield 274, 3) := by decide +kernel
theorem dX3_takeAnswer_25 : decode cX3_takeAnswer 25 = .ok (.aload_n 1, 1) := by decide +kernel
theorem dX3_takeAnswer_26 : decode cX3_takeAnswer 26 = .ok (.invokevirtual 124, 3) := by decide +kernel
theorem dX3_takeAnswer_29 : decode cX3_takeAnswer 29 = .ok (.aload_n 0, 1) := by decide +kernel
theorem dX3_takeAnswer_30 : decode cX3_takeAnswer 30 = .ok (.aload_n 1, 1) := by decide +kernel
theorem dX3_takeAnswer_31 : decode cX3_takeAnswer 31 = .ok (.iconst 2, 1) := by decide +kernel
theorem dX3_takeAnswer_32 : decode cX3_takeAnswer 32 = .ok (.invokevirtual 127, 3) := by decide +kernel
theorem dX3_takeAnswer_35 : decode cX3_takeAnswer 35 = .ok (.return_, 1) := by decide +kernel
theorem dX3_takeAnswer_36 : decode cX3_takeAnswer 36 = .ok (.aload_n 1, 1) := by decide +kernel
theorem dX3_takeAnswer_37 : decode cX3_takeAnswer 37 = .ok (.aload_n 2, 1) := by decide +kernel
theorem dX3_takeAnswer_38 : decode cX3_takeAnswer 38 = .ok (.invokevirtual 277, 3) := by decide +kernel
theorem dX3_takeAnswer_41 : decode cX3_takeAnswer 41 = .ok (.aload_n 0, 1) := by decide +kernel
theorem dX3_takeAnswer_42 : decode cX3_takeAnswer 42 = .ok (.aload_n 2, 1) := by decide +kernel
theorem dX3_takeAnswer_43 : decode cX3_takeAnswer 43 = .ok (.getfield 267, 3) := by decide +kernel
theorem dX3_takeAnswer_46 : decode cX3_takeAnswer 46 = .ok (.invokevirtual 280, 3) := by decide +kernel
theorem dX3_takeAnswer_49 : decode cX3_takeAnswer 49 = .ok (.aload_n 1, 1) := by decide +kernel
theorem dX3_takeAnswer_50 : decode cX3_takeAnswer 50 = .ok (.getfield 247, 3) := by decide +kernel
theorem dX3_takeAnswer_53 : decode cX3_takeAnswer 53 = .ok (.ifnull 4, 3) := by decide +kernel
theorem dX3_takeAnswer_56 : decode cX3_takeAnswer 56 = .ok (.return_, 1) := by decide +kernel
theorem dX3_takeAnswer_57 : decode cX3_takeAnswer 57 = .ok (.aload_n 1, 1) := by decide +kernel
theorem dX3_takeAnswer_58 : decode cX3_takeAnswer 58 = .ok (.getfield 284, 3) := by decide +kernel
theorem dX3_takeAnswer_61 : decode cX3_takeAnswer 61 = .ok (.ifCond .eq 39, 3) := by decide +kernel
theorem dX3_takeAnswer_64 : decode cX3_takeAnswer 64 = .ok (.aload_n 0, 1) := by decide +kernel
theorem dX3_takeAnswer_65 : decode cX3_takeAnswer 65 = .ok (.getfield 95, 3) := by decide +kernel
theorem dX3_takeAnswer_68 : decode cX3_takeAnswer 68 = .ok (.aload_n 1, 1) := by decide +kernel
theorem dX3_takeAnswer_69 : decode cX3_takeAnswer 69 = .ok (.getfield 287, 3) := by decide +kernel
theorem dX3_takeAnswer_72 : decode cX3_takeAnswer 72 = .ok (.if_icmp .ge 28, 3) := by decide +kernel
theorem dX3_takeAnswer_75 : decode cX3_takeAnswer 75 = .ok (.aload_n 0, 1) := by decide +kernel
theorem dX3_takeAnswer_76 : decode cX3_takeAnswer 76 = .ok (.invokevirtual 290, 3) := by decide +kernel
theorem dX3_takeAnswer_79 : decode cX3_takeAnswer 79 = .ok (.ifCond .eq 21, 3) := by decide +kernel
theorem dX3_takeAnswer_82 : decode cX3_takeAnswer 82 = .ok (.aload_n 0, 1) := by decide +kernel
theorem dX3_takeAnswer_83 : decode cX3_takeAnswer 83 = .ok (.dup, 1) := by decide +kernel
theorem dX3_takeAnswer_84 : decode cX3_takeAnswer 84 = .ok (.getfield 164, 3) := by decide +kernel
theorem dX3_takeAnswer_87 : decode cX3_takeAnswer 87 = .ok (.iconst 1, 1) := by decide +kernel
theorem dX3_takeAnswer_88 : decode cX3_takeAnswer 88 = .ok (.iadd, 1) := by decide +kernel
theorem dX3_takeAnswer_89 : decode cX3_takeAnswer 89 = .ok (.putfield 164, 3) := by decide +kernel
theorem dX3_takeAnswer_92 : decode cX3_takeAnswer 92 = .ok (.aload_n 0, 1) := by decide +kernel
theorem dX3_takeAnswer_93 : decode cX3_takeAnswer 93 = .ok (.aload_n 1, 1) := by decide +kernel
theorem dX3_takeAnswer_94 : decode cX3_takeAnswer 94 = .ok (.invokevirtual 105, 3) := by decide +kernel
theorem dX3_takeAnswer_97 : decode cX3_takeAnswer 97 = .ok (.goto 9, 3) := by decide +kernel
theorem dX3_takeAnswer_100 : decode cX3_takeAnswer 100 = .ok (.aload_n 0, 1) := by decide +kernel
theorem dX3_takeAnswer_101 : decode cX3_takeAnswer 101 = .ok (.aload_n 1, 1) := by decide +kernel
theorem dX3_takeAnswer_102 : decode cX3_takeAnswer 102 = .ok (.iconst 3, 1) := by decide +kernel
theorem dX3_takeAnswer_103 : decode cX3_takeAnswer 103 = .ok (.invokevirtual 127, 3) := by decide +kernel
theorem dX3_takeAnswer_106 : decode cX3_takeAnswer 106 = .ok (.return_, 1) := by decide +kernel
theorem dX3_budgetHolds_0 : decode cX3_budgetHolds 0 = .ok (.bipush 100, 2) := by decide +kernel
theorem dX3_budgetHolds_2 : decode cX3_budgetHolds 2 = .ok (.aload_n 0, 1) := by decide +kernel
theorem dX3_budgetHolds_3 : decode cX3_budgetHolds 3 = .ok (.getfield 164, 3) := by decide +kernel
theorem dX3_budgetHolds_6 : decode cX3_budgetHolds 6 = .ok (.iconst 1, 1) := by decide +kernel
theorem dX3_budgetHolds_7 : decode cX3_budgetHolds 7 = .ok (.iadd, 1) := by decide +kernel
theorem dX3_budgetHolds_8 : decode cX3_budgetHolds 8 = .ok (.imul, 1) := by decide +kernel
theorem dX3_budgetHolds_9 : decode cX3_budgetHolds 9 = .ok (.aload_n 0, 1) := by decide +kernel
theorem dX3_budgetHolds_10 : decode cX3_budgetHolds 10 = .ok (.getfield 36, 3) := by decide +kernel
theorem dX3_budgetHolds_13 : decode cX3_budgetHolds 13 = .ok (.aload_n 0, 1) := by decide +kernel
theorem dX3_budgetHolds_14 : decode cX3_budgetHolds 14 = .ok (.getfield 16, 3) := by decide +kernel
theorem dX3_budgetHolds_17 : decode cX3_budgetHolds 17 = .ok (.invokevirtual 43, 3) := by decide +kernel
theorem dX3_budgetHolds_20 : decode cX3_budgetHolds 20 = .ok (.imul, 1) := by decide +kernel
theorem dX3_budgetHolds_21 : decode cX3_budgetHolds 21 = .ok (.if_icmp .gt 7, 3) := by decide +kernel
theorem dX3_budgetHolds_24 : decode cX3_budgetHolds 24 = .ok (.iconst 1, 1) := by decide +kernel
theorem dX3_budgetHolds_25 : decode cX3_budgetHolds 25 = .ok (.goto 4, 3) := by decide +kernel
theorem dX3_budgetHolds_28 : decode cX3_budgetHolds 28 = .ok (.iconst 0, 1) := by decide +kernel
theorem dX3_budgetHolds_29 : decode cX3_budgetHolds 29 = .ok (.ireturn, 1) := by decide +kernel
theorem dX3_failureOf_0 : decode cX3_failureOf 0 = .ok (.aload_n 1, 1) := by decide +kernel
theorem dX3_failureOf_1 : decode cX3_failureOf 1 = .ok (.dup, 1) := by decide +kernel
theorem dX3_failureOf_2 : decode cX3_failureOf 2 = .ok (.getfield 293, 3) := by decide +kernel
theorem dX3_failureOf_5 : decode cX3_failureOf 5 = .ok (.iconst 1, 1) := by decide +kernel
theorem dX3_failureOf_6 : decode cX3_failureOf 6 = .ok (.iadd, 1) := by decide +kernel
theorem dX3_failureOf_7 : decode cX3_failureOf 7 = .ok (.putfield 293, 3) := by decide +kernel
theorem dX3_failureOf_10 : decode cX3_failureOf 10 = .ok (.aload_n 1, 1) := by decide +kernel
theorem dX3_failureOf_11 : decode cX3_failureOf 11 = .ok (.dup, 1) := by decide +kernel
theorem dX3_failureOf_12 : decode cX3_failureOf 12 = .ok (.getfield 83, 3) := by decide +kernel
theorem dX3_failureOf_15 : decode cX3_failureOf 15 = .ok (.iconst 1, 1) := by decide +kernel
theorem dX3_failureOf_16 : decode cX3_failureOf 16 = .ok (.iadd, 1) := by decide +kernel
theorem dX3_failureOf_17 : decode cX3_failureOf 17 = .ok (.putfield 83, 3) := by decide +kernel
theorem dX3_failureOf_20 : decode cX3_failureOf 20 = .ok (.aload_n 1, 1) := by decide +kernel
theorem dX3_failureOf_21 : decode cX3_failureOf 21 = .ok (.getfield 63, 3) := by decide +kernel
theorem dX3_failureOf_24 : decode cX3_failureOf 24 = .ok (.ifCond .ne 40, 3) := by decide +kernel
theorem dX3_failureOf_27 : decode cX3_failureOf 27 = .ok (.aload_n 1, 1) := by decide +kernel
theorem dX3_failureOf_28 : decode cX3_failureOf 28 = .ok (.getfield 83, 3) := by decide +kernel
theorem dX3_failureOf_31 : decode cX3_failureOf 31 = .ok (.aload_n 0, 1) := by decide +kernel
theorem dX3_failureOf_32 : decode cX3_failureOf 32 = .ok (.getfield 33, 3) := by decide +kernel
theorem dX3_failureOf_35 : decode cX3_failureOf 35 = .ok (.if_icmp .lt 29, 3) := by decide +kernel
theorem dX3_failureOf_38 : decode cX3_failureOf 38 = .ok (.aload_n 0, 1) := by decide +kernel
theorem dX3_failureOf_39 : decode cX3_failureOf 39 = .ok (.invokevirtual 296, 3) := by decide +kernel
theorem dX3_failureOf_42 : decode cX3_failureOf 42 = .ok (.ifCond .eq 11, 3) := by decide +kernel
theorem dX3_failureOf_45 : decode cX3_failureOf 45 = .ok (.aload_n 1, 1) := by decide +kernel
theorem dX3_failureOf_46 : decode cX3_failureOf 46 = .ok (.iconst 0, 1) := by decide +kernel
theorem dX3_failureOf_47 : decode cX3_failureOf 47 = .ok (.putfield 83, 3) := by decide +kernel
theorem dX3_failureOf_50 : decode cX3_failureOf 50 = .ok (.goto 45, 3) := by decide +kernel
theorem dX3_failureOf_53 : decode cX3_failureOf 53 = .ok (.aload_n 1, 1) := by decide +kernel
theorem dX3_failureOf_54 : decode cX3_failureOf 54 = .ok (.aload_n 0, 1) := by decide +kernel
theorem dX3_failureOf_55 : decode cX3_failureOf 55 = .ok (.getfield 95, 3) := by decide +kernel
theorem dX3_failureOf_58 : decode cX3_failureOf 58 = .ok (.invokevirtual 299, 3) := by decide +kernel
theorem dX3_failureOf_61 : decode cX3_failureOf 61 = .ok (.goto 34, 3) := by decide +kernel
theorem dX3_failureOf_64 : decode cX3_failureOf 64 = .ok (.aload_n 1, 1) := by decide +kernel
theorem dX3_failureOf_65 : decode cX3_failureOf 65 = .ok (.getfield 63, 3) := by decide +kernel
theorem dX3_failureOf_68 : decode cX3_failureOf 68 = .ok (.iconst 2, 1) := by decide +kernel
theorem dX3_failureOf_69 : decode cX3_failureOf 69 = .ok (.if_icmp .ne 26, 3) := by decide +kernel
theorem dX3_failureOf_72 : decode cX3_failureOf 72 = .ok (.aload_n 0, 1) := by decide +kernel
theorem dX3_failureOf_73 : decode cX3_failureOf 73 = .ok (.invokevirtual 296, 3) := by decide +kernel
theorem dX3_failureOf_76 : decode cX3_failureOf 76 = .ok (.ifCond .eq 11, 3) := by decide +kernel
theorem dX3_failureOf_79 : decode cX3_failureOf 79 = .ok (.aload_n 1, 1) := by decide +kernel
theorem dX3_failureOf_80 : decode cX3_failureOf 80 = .ok (.iconst 0, 1) := by decide +kernel
theorem dX3_failureOf_81 : decode cX3_failureOf 81 = .ok (.putfield 63, 3) := by decide +kernel
theorem dX3_failureOf_84 : decode cX3_failureOf 84 = .ok (.goto 11, 3) := by decide +kernel
theorem dX3_failureOf_87 : decode cX3_failureOf 87 = .ok (.aload_n 1, 1) := by decide +kernel
theorem dX3_failureOf_88 : decode cX3_failureOf 88 = .ok (.aload_n 0, 1) := by decide +kernel
theorem dX3_failureOf_89 : decode cX3_failureOf 89 = .ok (.getfield 95, 3) := by decide +kernel
theorem dX3_failureOf_92 : decode cX3_failureOf 92 = .ok (.invokevirtual 299, 3) := by decide +kernel
theorem dX3_failureOf_95 : decode cX3_failureOf 95 = .ok (.return_, 1) := by decide +kernel
theorem dX3_oneMoreOutIsTooMany_0 : decode cX3_oneMoreOutIsTooMany 0 = .ok (.iconst 1, 1) := by decide +kernel
theorem dX3_oneMoreOutIsTooMany_1 : decode cX3_oneMoreOutIsTooMany 1 = .ok (.istore_n 1, 1) := by decide +kernel
theorem dX3_oneMoreOutIsTooMany_2 : decode cX3_oneMoreOutIsTooMany 2 = .ok (.iconst 0, 1) := by decide +kernel
theorem dX3_oneMoreOutIsTooMany_3 : decode cX3_oneMoreOutIsTooMany 3 = .ok (.istore_n 2, 1) := by decide +kernel
theorem dX3_oneMoreOutIsTooMany_4 : decode cX3_oneMoreOutIsTooMany 4 = .ok (.iconst 0, 1) := by decide +kernel
theorem dX3_oneMoreOutIsTooMany_5 : decode cX3_oneMoreOutIsTooMany 5 = .ok (.istore_n 3, 1) := by decide +kernel
theorem dX3_oneMoreOutIsTooMany_6 : decode cX3_oneMoreOutIsTooMany 6 = .ok (.iload_n 3, 1) := by decide +kernel
theorem dX3_oneMoreOutIsTooMany_7 : decode cX3_oneMoreOutIsTooMany 7 = .ok (.aload_n 0, 1) := by decide +kernel
theorem dX3_oneMoreOutIsTooMany_8 : decode cX3_oneMoreOutIsTooMany 8 = .ok (.getfield 10, 3) := by decide +kernel
theorem dX3_oneMoreOutIsTooMany_11 : decode cX3_oneMoreOutIsTooMany 11 = .ok (.invokevirtual 43, 3) := by decide +kernel
theorem dX3_oneMoreOutIsTooMany_14 : decode cX3_oneMoreOutIsTooMany 14 = .ok (.if_icmp .ge 54, 3) := by decide +kernel
theorem dX3_oneMoreOutIsTooMany_17 : decode cX3_oneMoreOutIsTooMany 17 = .ok (.aload_n 0, 1) := by decide +kernel
theorem dX3_oneMoreOutIsTooMany_18 : decode cX3_oneMoreOutIsTooMany 18 = .ok (.getfield 10, 3) := by decide +kernel
theorem dX3_oneMoreOutIsTooMany_21 : decode cX3_oneMoreOutIsTooMany 21 = .ok (.iload_n 3, 1) := by decide +kernel
theorem dX3_oneMoreOutIsTooMany_22 : decode cX3_oneMoreOutIsTooMany 22 = .ok (.invokevirtual 151, 3) := by decide +kernel
theorem dX3_oneMoreOutIsTooMany_25 : decode cX3_oneMoreOutIsTooMany 25 = .ok (.checkcast 47, 3) := by decide +kernel
theorem dX3_oneMoreOutIsTooMany_28 : decode cX3_oneMoreOutIsTooMany 28 = .ok (.getfield 63, 3) := by decide +kernel
theorem dX3_oneMoreOutIsTooMany_31 : decode cX3_oneMoreOutIsTooMany 31 = .ok (.istore 4, 2) := by decide +kernel
theorem dX3_oneMoreOutIsTooMany_33 : decode cX3_oneMoreOutIsTooMany 33 = .ok (.iload 4, 2) := by decide +kernel
theorem dX3_oneMoreOutIsTooMany_35 : decode cX3_oneMoreOutIsTooMany 35 = .ok (.iconst 1, 1) := by decide +kernel
theorem dX3_oneMoreOutIsTooMany_36 : decode cX3_oneMoreOutIsTooMany 36 = .ok (.if_icmp .ne 6, 3) := by decide +kernel
theorem dX3_oneMoreOutIsTooMany_39 : decode cX3_oneMoreOutIsTooMany 39 = .ok (.iinc 1 1, 3) := by decide +kernel
theorem dX3_oneMoreOutIsTooMany_42 : decode cX3_oneMoreOutIsTooMany 42 = .ok (.iload 4, 2) := by decide +kernel
theorem dX3_oneMoreOutIsTooMany_44 : decode cX3_oneMoreOutIsTooMany 44 = .ok (.ifCond .eq 15, 3) := by decide +kernel
theorem dX3_oneMoreOutIsTooMany_47 : decode cX3_oneMoreOutIsTooMany 47 = .ok (.iload 4, 2) := by decide +kernel
theorem dX3_oneMoreOutIsTooMany_49 : decode cX3_oneMoreOutIsTooMany 49 = .ok (.iconst 2, 1) := by decide +kernel
theorem dX3_oneMoreOutIsTooMany_50 : decode cX3_oneMoreOutIsTooMany 50 = .ok (.if_icmp .eq 9, 3) := by decide +kernel
theorem dX3_oneMoreOutIsTooMany_53 : decode cX3_oneMoreOutIsTooMany 53 = .ok (.iload 4, 2) := by decide +kernel
theorem dX3_oneMoreOutIsTooMany_55 : decode cX3_oneMoreOutIsTooMany 55 = .ok (.iconst 1, 1) := by decide +kernel
theorem dX3_oneMoreOutIsTooMany_56 : decode cX3_oneMoreOutIsTooMany 56 = .ok (.if_icmp .ne 6, 3) := by decide +kernel
theorem dX3_oneMoreOutIsTooMany_59 : decode cX3_oneMoreOutIsTooMany 59 = .ok (.iinc 2 1, 3) := by decide +kernel
theorem dX3_oneMoreOutIsTooMany_62 : decode cX3_oneMoreOutIsTooMany 62 = .ok (.iinc 3 1, 3) := by decide +kernel
theorem dX3_oneMoreOutIsTooMany_65 : decode cX3_oneMoreOutIsTooMany 65 = .ok (.goto (-59), 3) := by decide +kernel
theorem dX3_oneMoreOutIsTooMany_68 : decode cX3_oneMoreOutIsTooMany 68 = .ok (.iload_n 1, 1) := by decide +kernel
theorem dX3_oneMoreOutIsTooMany_69 : decode cX3_oneMoreOutIsTooMany 69 = .ok (.iload_n 2, 1) := by decide +kernel
theorem dX3_oneMoreOutIsTooMany_70 : decode cX3_oneMoreOutIsTooMany 70 = .ok (.iconst 2, 1) := by decide +kernel
theorem dX3_oneMoreOutIsTooMany_71 : decode cX3_oneMoreOutIsTooMany 71 = .ok (.idiv, 1) := by decide +kernel
theorem dX3_oneMoreOutIsTooMany_72 : decode cX3_oneMoreOutIsTooMany 72 = .ok (.if_icmp .le 7, 3) := by decide +kernel
theorem dX3_oneMoreOutIsTooMany_75 : decode cX3_oneMoreOutIsTooMany 75 = .ok (.iconst 1, 1) := by decide +kernel
theorem dX3_oneMoreOutIsTooMany_76 : decode cX3_oneMoreOutIsTooMany 76 = .ok (.goto 4, 3) := by decide +kernel
theorem dX3_oneMoreOutIsTooMany_79 : decode cX3_oneMoreOutIsTooMany 79 = .ok (.iconst 0, 1) := by decide +kernel
theorem dX3_oneMoreOutIsTooMany_80 : decode cX3_oneMoreOutIsTooMany 80 = .ok (.ireturn, 1) := by decide +kernel
theorem dX3_meetDues_0 : decode cX3_meetDues 0 = .ok (.iconst 0, 1) := by decide +kernel
theorem dX3_meetDues_1 : decode cX3_meetDues 1 = .ok (.istore_n 1, 1) := by decide +kernel
theorem dX3_meetDues_2 : decode cX3_meetDues 2 = .ok (.iload_n 1, 1) := by decide +kernel
theorem dX3_meetDues_3 : decode cX3_meetDues 3 = .ok (.aload_n 0, 1) := by decide +kernel
theorem dX3_meetDues_4 : decode cX3_meetDues 4 = .ok (.getfield 19, 3) := by decide +kernel
theorem dX3_meetDues_7 : decode cX3_meetDues 7 = .ok (.invokevirtual 43, 3) := by decide +kernel
theorem dX3_meetDues_10 : decode cX3_meetDues 10 = .ok (.if_icmp .ge 69, 3) := by decide +kernel
theorem dX3_meetDues_13 : decode cX3_meetDues 13 = .ok (.aload_n 0, 1) := by decide +kernel
theorem dX3_meetDues_14 : decode cX3_meetDues 14 = .ok (.getfield 19, 3) := by decide +kernel
theorem dX3_meetDues_17 : decode cX3_meetDues 17 = .ok (.iload_n 1, 1) := by decide +kernel
theorem dX3_meetDues_18 : decode cX3_meetDues 18 = .ok (.invokevirtual 151, 3) := by decide +kernel
theorem dX3_meetDues_21 : decode cX3_meetDues 21 = .ok (.checkcast 93, 3) := by decide +kernel
theorem dX3_meetDues_24 : decode cX3_meetDues 24 = .ok (.astore_n 2, 1) := by decide +kernel
theorem dX3_meetDues_25 : decode cX3_meetDues 25 = .ok (.aload_n 2, 1) := by decide +kernel
theorem dX3_meetDues_26 : decode cX3_meetDues 26 = .ok (.getfield 287, 3) := by decide +kernel
theorem dX3_meetDues_29 : decode cX3_meetDues 29 = .ok (.aload_n 0, 1) := by decide +kernel
theorem dX3_meetDues_30 : decode cX3_meetDues 30 = .ok (.getfield 95, 3) := by decide +kernel
theorem dX3_meetDues_33 : decode cX3_meetDues 33 = .ok (.if_icmp .eq 6, 3) := by decide +kernel
theorem dX3_meetDues_36 : decode cX3_meetDues 36 = .ok (.goto 37, 3) := by decide +kernel
theorem dX3_meetDues_39 : decode cX3_meetDues 39 = .ok (.aload_n 2, 1) := by decide +kernel
theorem dX3_meetDues_40 : decode cX3_meetDues 40 = .ok (.getfield 118, 3) := by decide +kernel
theorem dX3_meetDues_43 : decode cX3_meetDues 43 = .ok (.iconst 1, 1) := by decide +kernel
theorem dX3_meetDues_44 : decode cX3_meetDues 44 = .ok (.if_icmp .ne 11, 3) := by decide +kernel
theorem dX3_meetDues_47 : decode cX3_meetDues 47 = .ok (.aload_n 0, 1) := by decide +kernel
theorem dX3_meetDues_48 : decode cX3_meetDues 48 = .ok (.aload_n 2, 1) := by decide +kernel
theorem dX3_meetDues_49 : decode cX3_meetDues 49 = .ok (.invokevirtual 303, 3) := by decide +kernel
theorem dX3_meetDues_52 : decode cX3_meetDues 52 = .ok (.goto 21, 3) := by decide +kernel
theorem dX3_meetDues_55 : decode cX3_meetDues 55 = .ok (.aload_n 2, 1) := by decide +kernel
theorem dX3_meetDues_56 : decode cX3_meetDues 56 = .ok (.getfield 118, 3) := by decide +kernel
theorem dX3_meetDues_59 : decode cX3_meetDues 59 = .ok (.ifCond .ne 14, 3) := by decide +kernel
theorem dX3_meetDues_62 : decode cX3_meetDues 62 = .ok (.aload_n 0, 1) := by decide +kernel
theorem dX3_meetDues_63 : decode cX3_meetDues 63 = .ok (.aload_n 2, 1) := by decide +kernel
theorem dX3_meetDues_64 : decode cX3_meetDues 64 = .ok (.invokevirtual 121, 3) := by decide +kernel
theorem dX3_meetDues_67 : decode cX3_meetDues 67 = .ok (.aload_n 0, 1) := by decide +kernel
theorem dX3_meetDues_68 : decode cX3_meetDues 68 = .ok (.aload_n 2, 1) := by decide +kernel
theorem dX3_meetDues_69 : decode cX3_meetDues 69 = .ok (.iconst 4, 1) := by decide +kernel
theorem dX3_meetDues_70 : decode cX3_meetDues 70 = .ok (.invokevirtual 127, 3) := by decide +kernel
theorem dX3_meetDues_73 : decode cX3_meetDues 73 = .ok (.iinc 1 1, 3) := by decide +kernel
theorem dX3_meetDues_76 : decode cX3_meetDues 76 = .ok (.goto (-74), 3) := by decide +kernel
theorem dX3_meetDues_79 : decode cX3_meetDues 79 = .ok (.return_, 1) := by decide +kernel
theorem dX3_failByDue_0 : decode cX3_failByDue 0 = .ok (.aload_n 1, 1) := by decide +kernel
theorem dX3_failByDue_1 : decode cX3_failByDue 1 = .ok (.getfield 247, 3) := by decide +kernel
theorem dX3_failByDue_4 : decode cX3_failByDue 4 = .ok (.astore_n 2, 1) := by decide +kernel
theorem dX3_failByDue_5 : decode cX3_failByDue 5 = .ok (.aload_n 1, 1) := by decide +kernel
theorem dX3_failByDue_6 : decode cX3_failByDue 6 = .ok (.getfield 251, 3) := by decide +kernel
theorem dX3_failByDue_9 : decode cX3_failByDue 9 = .ok (.astore_n 3, 1) := by decide +kernel
theorem dX3_failByDue_10 : decode cX3_failByDue 10 = .ok (.aload_n 1, 1) := by decide +kernel
theorem dX3_failByDue_11 : decode cX3_failByDue 11 = .ok (.invokevirtual 124, 3) := by decide +kernel
theorem dX3_failByDue_14 : decode cX3_failByDue 14 = .ok (.aload_n 2, 1) := by decide +kernel
theorem dX3_failByDue_15 : decode cX3_failByDue 15 = .ok (.ifnull 11, 3) := by decide +kernel
theorem dX3_failByDue_18 : decode cX3_failByDue 18 = .ok (.aload_n 0, 1) := by decide +kernel
theorem dX3_failByDue_19 : decode cX3_failByDue 19 = .ok (.aload_n 2, 1) := by decide +kernel
theorem dX3_failByDue_20 : decode cX3_failByDue 20 = .ok (.getfield 267, 3) := by decide +kernel
theorem dX3_failByDue_23 : decode cX3_failByDue 23 = .ok (.invokevirtual 280, 3) := by decide +kernel
theorem dX3_failByDue_26 : decode cX3_failByDue 26 = .ok (.aload_n 3, 1) := by decide +kernel
theorem dX3_failByDue_27 : decode cX3_failByDue 27 = .ok (.ifnull 11, 3) := by decide +kernel
theorem dX3_failByDue_30 : decode cX3_failByDue 30 = .ok (.aload_n 0, 1) := by decide +kernel
theorem dX3_failByDue_31 : decode cX3_failByDue 31 = .ok (.aload_n 3, 1) := by decide +kernel
theorem dX3_failByDue_32 : decode cX3_failByDue 32 = .ok (.getfield 267, 3) := by decide +kernel
theorem dX3_failByDue_35 : decode cX3_failByDue 35 = .ok (.invokevirtual 280, 3) := by decide +kernel
theorem dX3_failByDue_38 : decode cX3_failByDue 38 = .ok (.aload_n 0, 1) := by decide +kernel
theorem dX3_failByDue_39 : decode cX3_failByDue 39 = .ok (.aload_n 1, 1) := by decide +kernel
theorem dX3_failByDue_40 : decode cX3_failByDue 40 = .ok (.iconst 3, 1) := by decide +kernel
theorem dX3_failByDue_41 : decode cX3_failByDue 41 = .ok (.invokevirtual 127, 3) := by decide +kernel
theorem dX3_failByDue_44 : decode cX3_failByDue 44 = .ok (.return_, 1) := by decide +kernel
theorem dX3_tryThoseOut_0 : decode cX3_tryThoseOut 0 = .ok (.iconst 0, 1) := by decide +kernel
theorem dX3_tryThoseOut_1 : decode cX3_tryThoseOut 1 = .ok (.istore_n 1, 1) := by decide +kernel
theorem dX3_tryThoseOut_2 : decode cX3_tryThoseOut 2 = .ok (.iload_n 1, 1) := by decide +kernel
theorem dX3_tryThoseOut_3 : decode cX3_tryThoseOut 3 = .ok (.aload_n 0, 1) := by decide +kernel
theorem dX3_tryThoseOut_4 : decode cX3_tryThoseOut 4 = .ok (.getfield 10, 3) := by decide +kernel
theorem dX3_tryThoseOut_7 : decode cX3_tryThoseOut 7 = .ok (.invokevirtual 43, 3) := by decide +kernel
theorem dX3_tryThoseOut_10 : decode cX3_tryThoseOut 10 = .ok (.if_icmp .ge 45, 3) := by decide +kernel
theorem dX3_tryThoseOut_13 : decode cX3_tryThoseOut 13 = .ok (.aload_n 0, 1) := by decide +kernel
theorem dX3_tryThoseOut_14 : decode cX3_tryThoseOut 14 = .ok (.getfield 10, 3) := by decide +kernel
theorem dX3_tryThoseOut_17 : decode cX3_tryThoseOut 17 = .ok (.iload_n 1, 1) := by decide +kernel
theorem dX3_tryThoseOut_18 : decode cX3_tryThoseOut 18 = .ok (.invokevirtual 151, 3) := by decide +kernel
theorem dX3_tryThoseOut_21 : decode cX3_tryThoseOut 21 = .ok (.checkcast 47, 3) := by decide +kernel
theorem dX3_tryThoseOut_24 : decode cX3_tryThoseOut 24 = .ok (.astore_n 2, 1) := by decide +kernel
theorem dX3_tryThoseOut_25 : decode cX3_tryThoseOut 25 = .ok (.aload_n 2, 1) := by decide +kernel
theorem dX3_tryThoseOut_26 : decode cX3_tryThoseOut 26 = .ok (.getfield 63, 3) := by decide +kernel
theorem dX3_tryThoseOut_29 : decode cX3_tryThoseOut 29 = .ok (.iconst 1, 1) := by decide +kernel
theorem dX3_tryThoseOut_30 : decode cX3_tryThoseOut 30 = .ok (.if_icmp .ne 19, 3) := by decide +kernel
theorem dX3_tryThoseOut_33 : decode cX3_tryThoseOut 33 = .ok (.aload_n 2, 1) := by decide +kernel
theorem dX3_tryThoseOut_34 : decode cX3_tryThoseOut 34 = .ok (.getfield 306, 3) := by decide +kernel
theorem dX3_tryThoseOut_37 : decode cX3_tryThoseOut 37 = .ok (.aload_n 0, 1) := by decide +kernel
theorem dX3_tryThoseOut_38 : decode cX3_tryThoseOut 38 = .ok (.getfield 95, 3) := by decide +kernel
theorem dX3_tryThoseOut_41 : decode cX3_tryThoseOut 41 = .ok (.if_icmp .ne 8, 3) := by decide +kernel
theorem dX3_tryThoseOut_44 : decode cX3_tryThoseOut 44 = .ok (.aload_n 2, 1) := by decide +kernel
theorem dX3_tryThoseOut_45 : decode cX3_tryThoseOut 45 = .ok (.iconst 2, 1) := by decide +kernel
theorem dX3_tryThoseOut_46 : decode cX3_tryThoseOut 46 = .ok (.putfield 63, 3) := by decide +kernel
theorem dX3_tryThoseOut_49 : decode cX3_tryThoseOut 49 = .ok (.iinc 1 1, 3) := by decide +kernel
theorem dX3_tryThoseOut_52 : decode cX3_tryThoseOut 52 = .ok (.goto (-50), 3) := by decide +kernel
theorem dX3_tryThoseOut_55 : decode cX3_tryThoseOut 55 = .ok (.return_, 1) := by decide +kernel
theorem dX3_hedgeSlow_0 : decode cX3_hedgeSlow 0 = .ok (.aload_n 0, 1) := by decide +kernel
theorem dX3_hedgeSlow_1 : decode cX3_hedgeSlow 1 = .ok (.getfield 89, 3) := by decide +kernel
theorem dX3_hedgeSlow_4 : decode cX3_hedgeSlow 4 = .ok (.ifCond .ne 4, 3) := by decide +kernel
theorem dX3_hedgeSlow_7 : decode cX3_hedgeSlow 7 = .ok (.return_, 1) := by decide +kernel
theorem dX3_hedgeSlow_8 : decode cX3_hedgeSlow 8 = .ok (.iconst 0, 1) := by decide +kernel
theorem dX3_hedgeSlow_9 : decode cX3_hedgeSlow 9 = .ok (.istore_n 1, 1) := by decide +kernel
theorem dX3_hedgeSlow_10 : decode cX3_hedgeSlow 10 = .ok (.iload_n 1, 1) := by decide +kernel
theorem dX3_hedgeSlow_11 : decode cX3_hedgeSlow 11 = .ok (.aload_n 0, 1) := by decide +kernel
theorem dX3_hedgeSlow_12 : decode cX3_hedgeSlow 12 = .ok (.getfield 19, 3) := by decide +kernel
theorem dX3_hedgeSlow_15 : decode cX3_hedgeSlow 15 = .ok (.invokevirtual 43, 3) := by decide +kernel
theorem dX3_hedgeSlow_18 : decode cX3_hedgeSlow 18 = .ok (.if_icmp .ge 106, 3) := by decide +kernel
theorem dX3_hedgeSlow_21 : decode cX3_hedgeSlow 21 = .ok (.aload_n 0, 1) := by decide +kernel
theorem dX3_hedgeSlow_22 : decode cX3_hedgeSlow 22 = .ok (.getfield 19, 3) := by decide +kernel
theorem dX3_hedgeSlow_25 : decode cX3_hedgeSlow 25 = .ok (.iload_n 1, 1) := by decide +kernel
theorem dX3_hedgeSlow_26 : decode cX3_hedgeSlow 26 = .ok (.invokevirtual 151, 3) := by decide +kernel
theorem dX3_hedgeSlow_29 : decode cX3_hedgeSlow 29 = .ok (.checkcast 93, 3) := by decide +kernel
theorem dX3_hedgeSlow_32 : decode cX3_hedgeSlow 32 = .ok (.astore_n 2, 1) := by decide +kernel
theorem dX3_hedgeSlow_33 : decode cX3_hedgeSlow 33 = .ok (.aload_n 2, 1) := by decide +kernel
theorem dX3_hedgeSlow_34 : decode cX3_hedgeSlow 34 = .ok (.getfield 251, 3) := by decide +kernel
theorem dX3_hedgeSlow_37 : decode cX3_hedgeSlow 37 = .ok (.ifnonnull 10, 3) := by decide +kernel
theorem dX3_hedgeSlow_40 : decode cX3_hedgeSlow 40 = .ok (.aload_n 2, 1) := by decide +kernel
theorem dX3_hedgeSlow_41 : decode cX3_hedgeSlow 41 = .ok (.getfield 247, 3) := by decide +kernel
theorem dX3_hedgeSlow_44 : decode cX3_hedgeSlow 44 = .ok (.goto 4, 3) := by decide +kernel
theorem dX3_hedgeSlow_47 : decode cX3_hedgeSlow 47 = .ok (.aconst_null, 1) := by decide +kernel
theorem dX3_hedgeSlow_48 : decode cX3_hedgeSlow 48 = .ok (.astore_n 3, 1) := by decide +kernel
theorem dX3_hedgeSlow_49 : decode cX3_hedgeSlow 49 = .ok (.aload_n 3, 1) := by decide +kernel
theorem dX3_hedgeSlow_50 : decode cX3_hedgeSlow 50 = .ok (.ifnull 68, 3) := by decide +kernel
theorem dX3_hedgeSlow_53 : decode cX3_hedgeSlow 53 = .ok (.aload_n 2, 1) := by decide +kernel
theorem dX3_hedgeSlow_54 : decode cX3_hedgeSlow 54 = .ok (.getfield 284, 3) := by decide +kernel
theorem dX3_hedgeSlow_57 : decode cX3_hedgeSlow 57 = .ok (.ifCond .eq 61, 3) := by decide +kernel
theorem dX3_hedgeSlow_60 : decode cX3_hedgeSlow 60 = .ok (.aload_n 3, 1) := by decide +kernel
theorem dX3_hedgeSlow_61 : decode cX3_hedgeSlow 61 = .ok (.getfield 309, 3) := by decide +kernel
theorem dX3_hedgeSlow_64 : decode cX3_hedgeSlow 64 = .ok (.aload_n 0, 1) := by decide +kernel
theorem dX3_hedgeSlow_65 : decode cX3_hedgeSlow 65 = .ok (.getfield 89, 3) := by decide +kernel
theorem dX3_hedgeSlow_68 : decode cX3_hedgeSlow 68 = .ok (.iadd, 1) := by decide +kernel
theorem dX3_hedgeSlow_69 : decode cX3_hedgeSlow 69 = .ok (.aload_n 0, 1) := by decide +kernel
theorem dX3_hedgeSlow_70 : decode cX3_hedgeSlow 70 = .ok (.getfield 95, 3) := by decide +kernel
theorem dX3_hedgeSlow_73 : decode cX3_hedgeSlow 73 = .ok (.if_icmp .eq 6, 3) := by decide +kernel
theorem dX3_hedgeSlow_76 : decode cX3_hedgeSlow 76 = .ok (.goto 42, 3) := by decide +kernel
theorem dX3_hedgeSlow_79 : decode cX3_hedgeSlow 79 = .ok (.aload_n 0, 1) := by decide +kernel
theorem dX3_hedgeSlow_80 : decode cX3_hedgeSlow 80 = .ok (.aload_n 2, 1) := by decide +kernel
theorem dX3_hedgeSlow_81 : decode cX3_hedgeSlow 81 = .ok (.getfield 202, 3) := by decide +kernel
theorem dX3_hedgeSlow_84 : decode cX3_hedgeSlow 84 = .ok (.iconst (-1), 1) := by decide +kernel
theorem dX3_hedgeSlow_85 : decode cX3_hedgeSlow 85 = .ok (.invokevirtual 179, 3) := by decide +kernel
theorem dX3_hedgeSlow_88 : decode cX3_hedgeSlow 88 = .ok (.astore 4, 2) := by decide +kernel
theorem dX3_hedgeSlow_90 : decode cX3_hedgeSlow 90 = .ok (.aload 4, 2) := by decide +kernel
theorem dX3_hedgeSlow_92 : decode cX3_hedgeSlow 92 = .ok (.ifnull 26, 3) := by decide +kernel
theorem dX3_hedgeSlow_95 : decode cX3_hedgeSlow 95 = .ok (.aload_n 2, 1) := by decide +kernel
theorem dX3_hedgeSlow_96 : decode cX3_hedgeSlow 96 = .ok (.aload 4, 2) := by decide +kernel
theorem dX3_hedgeSlow_98 : decode cX3_hedgeSlow 98 = .ok (.aload_n 0, 1) := by decide +kernel
theorem dX3_hedgeSlow_99 : decode cX3_hedgeSlow 99 = .ok (.getfield 95, 3) := by decide +kernel
theorem dX3_hedgeSlow_102 : decode cX3_hedgeSlow 102 = .ok (.invokevirtual 209, 3) := by decide +kernel
theorem dX3_hedgeSlow_105 : decode cX3_hedgeSlow 105 = .ok (.invokevirtual 213, 3) := by decide +kernel
theorem dX3_hedgeSlow_108 : decode cX3_hedgeSlow 108 = .ok (.aload_n 0, 1) := by decide +kernel
theorem dX3_hedgeSlow_109 : decode cX3_hedgeSlow 109 = .ok (.dup, 1) := by decide +kernel
theorem dX3_hedgeSlow_110 : decode cX3_hedgeSlow 110 = .ok (.getfield 167, 3) := by decide +kernel
theorem dX3_hedgeSlow_113 : decode cX3_hedgeSlow 113 = .ok (.iconst 1, 1) := by decide +kernel
theorem dX3_hedgeSlow_114 : decode cX3_hedgeSlow 114 = .ok (.iadd, 1) := by decide +kernel
theorem dX3_hedgeSlow_115 : decode cX3_hedgeSlow 115 = .ok (.putfield 167, 3) := by decide +kernel
theorem dX3_hedgeSlow_118 : decode cX3_hedgeSlow 118 = .ok (.iinc 1 1, 3) := by decide +kernel
theorem dX3_hedgeSlow_121 : decode cX3_hedgeSlow 121 = .ok (.goto (-111), 3) := by decide +kernel
theorem dX3_hedgeSlow_124 : decode cX3_hedgeSlow 124 = .ok (.return_, 1) := by decide +kernel
theorem dX3_askQueued_0 : decode cX3_askQueued 0 = .ok (.aload_n 0, 1) := by decide +kernel
theorem dX3_askQueued_1 : decode cX3_askQueued 1 = .ok (.getfield 22, 3) := by decide +kernel
theorem dX3_askQueued_4 : decode cX3_askQueued 4 = .ok (.invokevirtual 43, 3) := by decide +kernel
theorem dX3_askQueued_7 : decode cX3_askQueued 7 = .ok (.istore_n 1, 1) := by decide +kernel
theorem dX3_askQueued_8 : decode cX3_askQueued 8 = .ok (.iconst 0, 1) := by decide +kernel
theorem dX3_askQueued_9 : decode cX3_askQueued 9 = .ok (.istore_n 2, 1) := by decide +kernel
theorem dX3_askQueued_10 : decode cX3_askQueued 10 = .ok (.iconst 0, 1) := by decide +kernel
theorem dX3_askQueued_11 : decode cX3_askQueued 11 = .ok (.istore_n 3, 1) := by decide +kernel
theorem dX3_askQueued_12 : decode cX3_askQueued 12 = .ok (.iload_n 3, 1) := by decide +kernel
theorem dX3_askQueued_13 : decode cX3_askQueued 13 = .ok (.iload_n 1, 1) := by decide +kernel
theorem dX3_askQueued_14 : decode cX3_askQueued 14 = .ok (.if_icmp .ge 53, 3) := by decide +kernel
theorem dX3_askQueued_17 : decode cX3_askQueued 17 = .ok (.iload_n 2, 1) := by decide +kernel
theorem dX3_askQueued_18 : decode cX3_askQueued 18 = .ok (.aload_n 0, 1) := by decide +kernel
theorem dX3_askQueued_19 : decode cX3_askQueued 19 = .ok (.getfield 22, 3) := by decide +kernel
theorem dX3_askQueued_22 : decode cX3_askQueued 22 = .ok (.invokevirtual 43, 3) := by decide +kernel
theorem dX3_askQueued_25 : decode cX3_askQueued 25 = .ok (.if_icmp .ge 42, 3) := by decide +kernel
theorem dX3_askQueued_28 : decode cX3_askQueued 28 = .ok (.aload_n 0, 1) := by decide +kernel
theorem dX3_askQueued_29 : decode cX3_askQueued 29 = .ok (.aload_n 0, 1) := by decide +kernel
theorem dX3_askQueued_30 : decode cX3_askQueued 30 = .ok (.getfield 22, 3) := by decide +kernel
theorem dX3_askQueued_33 : decode cX3_askQueued 33 = .ok (.iload_n 2, 1) := by decide +kernel
theorem dX3_askQueued_34 : decode cX3_askQueued 34 = .ok (.invokevirtual 151, 3) := by decide +kernel
theorem dX3_askQueued_37 : decode cX3_askQueued 37 = .ok (.checkcast 93, 3) := by decide +kernel
theorem dX3_askQueued_40 : decode cX3_askQueued 40 = .ok (.invokevirtual 101, 3) := by decide +kernel
theorem dX3_askQueued_43 : decode cX3_askQueued 43 = .ok (.ifCond .eq 15, 3) := by decide +kernel
theorem dX3_askQueued_46 : decode cX3_askQueued 46 = .ok (.aload_n 0, 1) := by decide +kernel
theorem dX3_askQueued_47 : decode cX3_askQueued 47 = .ok (.getfield 22, 3) := by decide +kernel
theorem dX3_askQueued_50 : decode cX3_askQueued 50 = .ok (.iload_n 2, 1) := by decide +kernel
theorem dX3_askQueued_51 : decode cX3_askQueued 51 = .ok (.invokevirtual 223, 3) := by decide +kernel
theorem dX3_askQueued_54 : decode cX3_askQueued 54 = .ok (.pop, 1) := by decide +kernel
theorem dX3_askQueued_55 : decode cX3_askQueued 55 = .ok (.goto 6, 3) := by decide +kernel
theorem dX3_askQueued_58 : decode cX3_askQueued 58 = .ok (.iinc 2 1, 3) := by decide +kernel
theorem dX3_askQueued_61 : decode cX3_askQueued 61 = .ok (.iinc 3 1, 3) := by decide +kernel
theorem dX3_askQueued_64 : decode cX3_askQueued 64 = .ok (.goto (-52), 3) := by decide +kernel
theorem dX3_askQueued_67 : decode cX3_askQueued 67 = .ok (.return_, 1) := by decide +kernel
theorem dX3_letDrainedGo_0 : decode cX3_letDrainedGo 0 = .ok (.iconst 0, 1) := by decide +kernel
theorem dX3_letDrainedGo_1 : decode cX3_letDrainedGo 1 = .ok (.istore_n 1, 1) := by decide +kernel
theorem dX3_letDrainedGo_2 : decode cX3_letDrainedGo 2 = .ok (.iload_n 1, 1) := by decide +kernel
theorem dX3_letDrainedGo_3 : decode cX3_letDrainedGo 3 = .ok (.aload_n 0, 1) := by decide +kernel
theorem dX3_letDrainedGo_4 : decode cX3_letDrainedGo 4 = .ok (.getfield 10, 3) := by decide +kernel
theorem dX3_letDrainedGo_7 : decode cX3_letDrainedGo 7 = .ok (.invokevirtual 43, 3) := by decide +kernel
theorem dX3_letDrainedGo_10 : decode cX3_letDrainedGo 10 = .ok (.if_icmp .ge 41, 3) := by decide +kernel
theorem dX3_letDrainedGo_13 : decode cX3_letDrainedGo 13 = .ok (.aload_n 0, 1) := by decide +kernel
theorem dX3_letDrainedGo_14 : decode cX3_letDrainedGo 14 = .ok (.getfield 10, 3) := by decide +kernel
theorem dX3_letDrainedGo_17 : decode cX3_letDrainedGo 17 = .ok (.iload_n 1, 1) := by decide +kernel
theorem dX3_letDrainedGo_18 : decode cX3_letDrainedGo 18 = .ok (.invokevirtual 151, 3) := by decide +kernel
theorem dX3_letDrainedGo_21 : decode cX3_letDrainedGo 21 = .ok (.checkcast 47, 3) := by decide +kernel
theorem dX3_letDrainedGo_24 : decode cX3_letDrainedGo 24 = .ok (.astore_n 2, 1) := by decide +kernel
theorem dX3_letDrainedGo_25 : decode cX3_letDrainedGo 25 = .ok (.aload_n 2, 1) := by decide +kernel
theorem dX3_letDrainedGo_26 : decode cX3_letDrainedGo 26 = .ok (.getfield 63, 3) := by decide +kernel
theorem dX3_letDrainedGo_29 : decode cX3_letDrainedGo 29 = .ok (.iconst 3, 1) := by decide +kernel
theorem dX3_letDrainedGo_30 : decode cX3_letDrainedGo 30 = .ok (.if_icmp .ne 15, 3) := by decide +kernel
theorem dX3_letDrainedGo_33 : decode cX3_letDrainedGo 33 = .ok (.aload_n 2, 1) := by decide +kernel
theorem dX3_letDrainedGo_34 : decode cX3_letDrainedGo 34 = .ok (.getfield 80, 3) := by decide +kernel
theorem dX3_letDrainedGo_37 : decode cX3_letDrainedGo 37 = .ok (.ifCond .ne 8, 3) := by decide +kernel
theorem dX3_letDrainedGo_40 : decode cX3_letDrainedGo 40 = .ok (.aload_n 2, 1) := by decide +kernel
theorem dX3_letDrainedGo_41 : decode cX3_letDrainedGo 41 = .ok (.iconst 4, 1) := by decide +kernel
theorem dX3_letDrainedGo_42 : decode cX3_letDrainedGo 42 = .ok (.putfield 63, 3) := by decide +kernel
theorem dX3_letDrainedGo_45 : decode cX3_letDrainedGo 45 = .ok (.iinc 1 1, 3) := by decide +kernel
theorem dX3_letDrainedGo_48 : decode cX3_letDrainedGo 48 = .ok (.goto (-46), 3) := by decide +kernel
theorem dX3_letDrainedGo_51 : decode cX3_letDrainedGo 51 = .ok (.return_, 1) := by decide +kernel
end
section
theorem dX4_init_0 : decode cX4_init 0 = .ok (.aload_n 0, 1) := by decide +kernel
theorem dX4_init_1 : decode cX4_init 1 = .ok (.invokespecial 1, 3) := by decide +kernel
theorem dX4_init_4 : decode cX4_init 4 = .ok (.aload_n 0, 1) := by decide +kernel
theorem dX4_init_5 : decode cX4_init 5 = .ok (.bipush 7, 2) := by decide +kernel
theorem dX4_init_7 : decode cX4_init 7 = .ok (.newarray .int, 2) := by decide +kernel
theorem dX4_init_9 : decode cX4_init 9 = .ok (.putfield 7, 3) := by decide +kernel
theorem dX4_init_12 : decode cX4_init 12 = .ok (.aload_n 0, 1) := by decide +kernel
theorem dX4_init_13 : decode cX4_init 13 = .ok (.iconst 3, 1) := by decide +kernel
theorem dX4_init_14 : decode cX4_init 14 = .ok (.putfield 13, 3) := by decide +kernel
theorem dX4_init_17 : decode cX4_init 17 = .ok (.aload_n 0, 1) := by decide +kernel
theorem dX4_init_18 : decode cX4_init 18 = .ok (.bipush 20, 2) := by decide +kernel
theorem dX4_init_20 : decode cX4_init 20 = .ok (.putfield 17, 3) := by decide +kernel
theorem dX4_init_23 : decode cX4_init 23 = .ok (.aload_n 0, 1) := by decide +kernel
theorem dX4_init_24 : decode cX4_init 24 = .ok (.bipush 8, 2) := by decide +kernel
theorem dX4_init_26 : decode cX4_init 26 = .ok (.newarray .int, 2) := by decide +kernel
theorem dX4_init_28 : decode cX4_init 28 = .ok (.putfield 20, 3) := by decide +kernel
theorem dX4_init_31 : decode cX4_init 31 = .ok (.aload_n 0, 1) := by decide +kernel
theorem dX4_init_32 : decode cX4_init 32 = .ok (.bipush 8, 2) := by decide +kernel
theorem dX4_init_34 : decode cX4_init 34 = .ok (.newarray .int, 2) := by decide +kernel
theorem dX4_init_36 : decode cX4_init 36 = .ok (.putfield 23, 3) := by decide +kernel
theorem dX4_init_39 : decode cX4_init 39 = .ok (.aload_n 0, 1) := by decide +kernel
theorem dX4_init_40 : decode cX4_init 40 = .ok (.bipush 8, 2) := by decide +kernel
theorem dX4_init_42 : decode cX4_init 42 = .ok (.newarray .int, 2) := by decide +kernel
theorem dX4_init_44 : decode cX4_init 44 = .ok (.putfield 26, 3) := by decide +kernel
theorem dX4_init_47 : decode cX4_init 47 = .ok (.aload_n 0, 1) := by decide +kernel
theorem dX4_init_48 : decode cX4_init 48 = .ok (.bipush 8, 2) := by decide +kernel
theorem dX4_init_50 : decode cX4_init 50 = .ok (.newarray .int, 2) := by decide +kernel
theorem dX4_init_52 : decode cX4_init 52 = .ok (.putfield 29, 3) := by decide +kernel
theorem dX4_init_55 : decode cX4_init 55 = .ok (.aload_n 0, 1) := by decide +kernel
theorem dX4_init_56 : decode cX4_init 56 = .ok (.bipush 8, 2) := by decide +kernel
theorem dX4_init_58 : decode cX4_init 58 = .ok (.newarray .int, 2) := by decide +kernel
theorem dX4_init_60 : decode cX4_init 60 = .ok (.putfield 32, 3) := by decide +kernel
theorem dX4_init_63 : decode cX4_init 63 = .ok (.aload_n 0, 1) := by decide +kernel
theorem dX4_init_64 : decode cX4_init 64 = .ok (.bipush 8, 2) := by decide +kernel
theorem dX4_init_66 : decode cX4_init 66 = .ok (.newarray .int, 2) := by decide +kernel
theorem dX4_init_68 : decode cX4_init 68 = .ok (.putfield 35, 3) := by decide +kernel
theorem dX4_init_71 : decode cX4_init 71 = .ok (.aload_n 0, 1) := by decide +kernel
theorem dX4_init_72 : decode cX4_init 72 = .ok (.bipush 8, 2) := by decide +kernel
theorem dX4_init_74 : decode cX4_init 74 = .ok (.newarray .int, 2) := by decide +kernel
theorem dX4_init_76 : decode cX4_init 76 = .ok (.putfield 38, 3) := by decide +kernel
theorem dX4_init_79 : decode cX4_init 79 = .ok (.aload_n 0, 1) := by decide +kernel
theorem dX4_init_80 : decode cX4_init 80 = .ok (.bipush 8, 2) := by decide +kernel
theorem dX4_init_82 : decode cX4_init 82 = .ok (.newarray .int, 2) := by decide +kernel
theorem dX4_init_84 : decode cX4_init 84 = .ok (.putfield 41, 3) := by decide +kernel
theorem dX4_init_87 : decode cX4_init 87 = .ok (.aload_n 0, 1) := by decide +kernel
theorem dX4_init_88 : decode cX4_init 88 = .ok (.bipush 8, 2) := by decide +kernel
theorem dX4_init_90 : decode cX4_init 90 = .ok (.newarray .int, 2) := by decide +kernel
theorem dX4_init_92 : decode cX4_init 92 = .ok (.putfield 44, 3) := by decide +kernel
theorem dX4_init_95 : decode cX4_init 95 = .ok (.aload_n 0, 1) := by decide +kernel
theorem dX4_init_96 : decode cX4_init 96 = .ok (.bipush 8, 2) := by decide +kernel
theorem dX4_init_98 : decode cX4_init 98 = .ok (.newarray .int, 2) := by decide +kernel
theorem dX4_init_100 : decode cX4_init 100 = .ok (.putfield 47, 3) := by decide +kernel
theorem dX4_init_103 : decode cX4_init 103 = .ok (.aload_n 0, 1) := by decide +kernel
theorem dX4_init_104 : decode cX4_init 104 = .ok (.bipush 8, 2) := by decide +kernel
theorem dX4_init_106 : decode cX4_init 106 = .ok (.newarray .int, 2) := by decide +kernel
theorem dX4_init_108 : decode cX4_init 108 = .ok (.putfield 50, 3) := by decide +kernel
theorem dX4_init_111 : decode cX4_init 111 = .ok (.aload_n 0, 1) := by decide +kernel
theorem dX4_init_112 : decode cX4_init 112 = .ok (.bipush 8, 2) := by decide +kernel
theorem dX4_init_114 : decode cX4_init 114 = .ok (.newarray .int, 2) := by decide +kernel
theorem dX4_init_116 : decode cX4_init 116 = .ok (.putfield 53, 3) := by decide +kernel
theorem dX4_init_119 : decode cX4_init 119 = .ok (.aload_n 0, 1) := by decide +kernel
theorem dX4_init_120 : decode cX4_init 120 = .ok (.bipush 8, 2) := by decide +kernel
theorem dX4_init_122 : decode cX4_init 122 = .ok (.newarray .int, 2) := by decide +kernel
theorem dX4_init_124 : decode cX4_init 124 = .ok (.putfield 56, 3) := by decide +kernel
theorem dX4_init_127 : decode cX4_init 127 = .ok (.aload_n 0, 1) := by decide +kernel
theorem dX4_init_128 : decode cX4_init 128 = .ok (.bipush 8, 2) := by decide +kernel
theorem dX4_init_130 : decode cX4_init 130 = .ok (.newarray .int, 2) := by decide +kernel
theorem dX4_init_132 : decode cX4_init 132 = .ok (.putfield 59, 3) := by decide +kernel
theorem dX4_init_135 : decode cX4_init 135 = .ok (.aload_n 0, 1) := by decide +kernel
theorem dX4_init_136 : decode cX4_init 136 = .ok (.bipush 8, 2) := by decide +kernel
theorem dX4_init_138 : decode cX4_init 138 = .ok (.newarray .int, 2) := by decide +kernel
theorem dX4_init_140 : decode cX4_init 140 = .ok (.putfield 62, 3) := by decide +kernel
theorem dX4_init_143 : decode cX4_init 143 = .ok (.aload_n 0, 1) := by decide +kernel
theorem dX4_init_144 : decode cX4_init 144 = .ok (.bipush 8, 2) := by decide +kernel
theorem dX4_init_146 : decode cX4_init 146 = .ok (.newarray .int, 2) := by decide +kernel
theorem dX4_init_148 : decode cX4_init 148 = .ok (.putfield 65, 3) := by decide +kernel
theorem dX4_init_151 : decode cX4_init 151 = .ok (.aload_n 0, 1) := by decide +kernel
theorem dX4_init_152 : decode cX4_init 152 = .ok (.sipush 200, 3) := by decide +kernel
theorem dX4_init_155 : decode cX4_init 155 = .ok (.newarray .int, 2) := by decide +kernel
theorem dX4_init_157 : decode cX4_init 157 = .ok (.putfield 68, 3) := by decide +kernel
theorem dX4_init_160 : decode cX4_init 160 = .ok (.aload_n 0, 1) := by decide +kernel
theorem dX4_init_161 : decode cX4_init 161 = .ok (.sipush 200, 3) := by decide +kernel
theorem dX4_init_164 : decode cX4_init 164 = .ok (.newarray .int, 2) := by decide +kernel
theorem dX4_init_166 : decode cX4_init 166 = .ok (.putfield 71, 3) := by decide +kernel
theorem dX4_init_169 : decode cX4_init 169 = .ok (.aload_n 0, 1) := by decide +kernel
theorem dX4_init_170 : decode cX4_init 170 = .ok (.sipush 200, 3) := by decide +kernel
theorem dX4_init_173 : decode cX4_init 173 = .ok (.newarray .int, 2) := by decide +kernel
theorem dX4_init_175 : decode cX4_init 175 = .ok (.putfield 74, 3) := by decide +kernel
theorem dX4_init_178 : decode cX4_init 178 = .ok (.aload_n 0, 1) := by decide +kernel
theorem dX4_init_179 : decode cX4_init 179 = .ok (.sipush 200, 3) := by decide +kernel
theorem dX4_init_182 : decode cX4_init 182 = .ok (.newarray .int, 2) := by decide +kernel
theorem dX4_init_184 : decode cX4_init 184 = .ok (.putfield 77, 3) := by decide +kernel
theorem dX4_init_187 : decode cX4_init 187 = .ok (.aload_n 0, 1) := by decide +kernel
theorem dX4_init_188 : decode cX4_init 188 = .ok (.sipush 200, 3) := by decide +kernel
theorem dX4_init_191 : decode cX4_init 191 = .ok (.newarray .int, 2) := by decide +kernel
theorem dX4_init_193 : decode cX4_init 193 = .ok (.putfield 80, 3) := by decide +kernel
theorem dX4_init_196 : decode cX4_init 196 = .ok (.aload_n 0, 1) := by decide +kernel
theorem dX4_init_197 : decode cX4_init 197 = .ok (.sipush 200, 3) := by decide +kernel
theorem dX4_init_200 : decode cX4_init 200 = .ok (.newarray .int, 2) := by decide +kernel
theorem dX4_init_202 : decode cX4_init 202 = .ok (.putfield 83, 3) := by decide +kernel
theorem dX4_init_205 : decode cX4_init 205 = .ok (.aload_n 0, 1) := by decide +kernel
theorem dX4_init_206 : decode cX4_init 206 = .ok (.sipush 200, 3) := by decide +kernel
theorem dX4_init_209 : decode cX4_init 209 = .ok (.newarray .int, 2) := by decide +kernel
theorem dX4_init_211 : decode cX4_init 211 = .ok (.putfield 86, 3) := by decide +kernel
theorem dX4_init_214 : decode cX4_init 214 = .ok (.aload_n 0, 1) := by decide +kernel
theorem dX4_init_215 : decode cX4_init 215 = .ok (.sipush 200, 3) := by decide +kernel
theorem dX4_init_218 : decode cX4_init 218 = .ok (.newarray .int, 2) := by decide +kernel
theorem dX4_init_220 : decode cX4_init 220 = .ok (.putfield 89, 3) := by decide +kernel
theorem dX4_init_223 : decode cX4_init 223 = .ok (.aload_n 0, 1) := by decide +kernel
theorem dX4_init_224 : decode cX4_init 224 = .ok (.sipush 200, 3) := by decide +kernel
theorem dX4_init_227 : decode cX4_init 227 = .ok (.newarray .int, 2) := by decide +kernel
theorem dX4_init_229 : decode cX4_init 229 = .ok (.putfield 92, 3) := by decide +kernel
theorem dX4_init_232 : decode cX4_init 232 = .ok (.aload_n 0, 1) := by decide +kernel
theorem dX4_init_233 : decode cX4_init 233 = .ok (.sipush 200, 3) := by decide +kernel
theorem dX4_init_236 : decode cX4_init 236 = .ok (.newarray .boolean, 2) := by decide +kernel
theorem dX4_init_238 : decode cX4_init 238 = .ok (.putfield 95, 3) := by decide +kernel
theorem dX4_init_241 : decode cX4_init 241 = .ok (.aload_n 0, 1) := by decide +kernel
theorem dX4_init_242 : decode cX4_init 242 = .ok (.sipush 400, 3) := by decide +kernel
theorem dX4_init_245 : decode cX4_init 245 = .ok (.newarray .int, 2) := by decide +kernel
theorem dX4_init_247 : decode cX4_init 247 = .ok (.putfield 99, 3) := by decide +kernel
theorem dX4_init_250 : decode cX4_init 250 = .ok (.aload_n 0, 1) := by decide +kernel
theorem dX4_init_251 : decode cX4_init 251 = .ok (.sipush 400, 3) := by decide +kernel
theorem dX4_init_254 : decode cX4_init 254 = .ok (.newarray .int, 2) := by decide +kernel
theorem dX4_init_256 : decode cX4_init 256 = .ok (.putfield 102, 3) := by decide +kernel
theorem dX4_init_259 : decode cX4_init 259 = .ok (.aload_n 0, 1) := by decide +kernel
theorem dX4_init_260 : decode cX4_init 260 = .ok (.sipush 400, 3) := by decide +kernel
theorem dX4_init_263 : decode cX4_init 263 = .ok (.newarray .int, 2) := by decide +kernel
theorem dX4_init_265 : decode cX4_init 265 = .ok (.putfield 105, 3) := by decide +kernel
theorem dX4_init_268 : decode cX4_init 268 = .ok (.aload_n 0, 1) := by decide +kernel
theorem dX4_init_269 : decode cX4_init 269 = .ok (.sipush 400, 3) := by decide +kernel
theorem dX4_init_272 : decode cX4_init 272 = .ok (.newarray .boolean, 2) := by decide +kernel
theorem dX4_init_274 : decode cX4_init 274 = .ok (.putfield 108, 3) := by decide +kernel
theorem dX4_init_277 : decode cX4_init 277 = .ok (.aload_n 0, 1) := by decide +kernel
theorem dX4_init_278 : decode cX4_init 278 = .ok (.sipush 200, 3) := by decide +kernel
theorem dX4_init_281 : decode cX4_init 281 = .ok (.newarray .int, 2) := by decide +kernel
theorem dX4_init_283 : decode cX4_init 283 = .ok (.putfield 111, 3) := by decide +kernel
theorem dX4_init_286 : decode cX4_init 286 = .ok (.return_, 1) := by decide +kernel
theorem dX4_refuse_0 : decode cX4_refuse 0 = .ok (.aload_n 0, 1) := by decide +kernel
theorem dX4_refuse_1 : decode cX4_refuse 1 = .ok (.getfield 7, 3) := by decide +kernel
theorem dX4_refuse_4 : decode cX4_refuse 4 = .ok (.iload_n 1, 1) := by decide +kernel
theorem dX4_refuse_5 : decode cX4_refuse 5 = .ok (.ineg, 1) := by decide +kernel
theorem dX4_refuse_6 : decode cX4_refuse 6 = .ok (.dup2, 1) := by decide +kernel
theorem dX4_refuse_7 : decode cX4_refuse 7 = .ok (.iaload, 1) := by decide +kernel
theorem dX4_refuse_8 : decode cX4_refuse 8 = .ok (.iconst 1, 1) := by decide +kernel
theorem dX4_refuse_9 : decode cX4_refuse 9 = .ok (.iadd, 1) := by decide +kernel
theorem dX4_refuse_10 : decode cX4_refuse 10 = .ok (.iastore, 1) := by decide +kernel
theorem dX4_refuse_11 : decode cX4_refuse 11 = .ok (.iload_n 1, 1) := by decide +kernel
theorem dX4_refuse_12 : decode cX4_refuse 12 = .ok (.ireturn, 1) := by decide +kernel
theorem dX4_isIn_0 : decode cX4_isIn 0 = .ok (.iload_n 0, 1) := by decide +kernel
theorem dX4_isIn_1 : decode cX4_isIn 1 = .ok (.ifCond .lt 12, 3) := by decide +kernel
theorem dX4_isIn_4 : decode cX4_isIn 4 = .ok (.iload_n 0, 1) := by decide +kernel
theorem dX4_isIn_5 : decode cX4_isIn 5 = .ok (.iload_n 1, 1) := by decide +kernel
theorem dX4_isIn_6 : decode cX4_isIn 6 = .ok (.if_icmp .ge 7, 3) := by decide +kernel
theorem dX4_isIn_9 : decode cX4_isIn 9 = .ok (.iconst 1, 1) := by decide +kernel
theorem dX4_isIn_10 : decode cX4_isIn 10 = .ok (.goto 4, 3) := by decide +kernel
theorem dX4_isIn_13 : decode cX4_isIn 13 = .ok (.iconst 0, 1) := by decide +kernel
theorem dX4_isIn_14 : decode cX4_isIn 14 = .ok (.ireturn, 1) := by decide +kernel
theorem dX4_isServer_0 : decode cX4_isServer 0 = .ok (.iload_n 1, 1) := by decide +kernel
theorem dX4_isServer_1 : decode cX4_isServer 1 = .ok (.aload_n 0, 1) := by decide +kernel
theorem dX4_isServer_2 : decode cX4_isServer 2 = .ok (.getfield 114, 3) := by decide +kernel
theorem dX4_isServer_5 : decode cX4_isServer 5 = .ok (.invokestatic 117, 3) := by decide +kernel
theorem dX4_isServer_8 : decode cX4_isServer 8 = .ok (.ireturn, 1) := by decide +kernel
theorem dX4_isCall_0 : decode cX4_isCall 0 = .ok (.iload_n 1, 1) := by decide +kernel
theorem dX4_isCall_1 : decode cX4_isCall 1 = .ok (.aload_n 0, 1) := by decide +kernel
theorem dX4_isCall_2 : decode cX4_isCall 2 = .ok (.getfield 121, 3) := by decide +kernel
theorem dX4_isCall_5 : decode cX4_isCall 5 = .ok (.invokestatic 117, 3) := by decide +kernel
theorem dX4_isCall_8 : decode cX4_isCall 8 = .ok (.ireturn, 1) := by decide +kernel
theorem dX4_server_0 : decode cX4_server 0 = .ok (.iload_n 2, 1) := by decide +kernel
theorem dX4_server_1 : decode cX4_server 1 = .ok (.iconst 4, 1) := by decide +kernel
theorem dX4_server_2 : decode cX4_server 2 = .ok (.invokestatic 117, 3) := by decide +kernel
theorem dX4_server_5 : decode cX4_server 5 = .ok (.ifCond .ne 9, 3) := by decide +kernel
theorem dX4_server_8 : decode cX4_server 8 = .ok (.aload_n 0, 1) := by decide +kernel
theorem dX4_server_9 : decode cX4_server 9 = .ok (.iconst (-1), 1) := by decide +kernel
theorem dX4_server_10 : decode cX4_server 10 = .ok (.invokevirtual 124, 3) := by decide +kernel
theorem dX4_server_13 : decode cX4_server 13 = .ok (.ireturn, 1) := by decide +kernel
theorem dX4_server_14 : decode cX4_server 14 = .ok (.iload_n 1, 1) := by decide +kernel
theorem dX4_server_15 : decode cX4_server 15 = .ok (.iconst 1, 1) := by decide +kernel
theorem dX4_server_16 : decode cX4_server 16 = .ok (.if_icmp .lt 19, 3) := by decide +kernel
theorem dX4_server_19 : decode cX4_server 19 = .ok (.iload_n 3, 1) := by decide +kernel
theorem dX4_server_20 : decode cX4_server 20 = .ok (.iconst 1, 1) := by decide +kernel
theorem dX4_server_21 : decode cX4_server 21 = .ok (.if_icmp .lt 14, 3) := by decide +kernel
theorem dX4_server_24 : decode cX4_server 24 = .ok (.iload 4, 2) := by decide +kernel
theorem dX4_server_26 : decode cX4_server 26 = .ok (.iconst 1, 1) := by decide +kernel
theorem dX4_server_27 : decode cX4_server 27 = .ok (.if_icmp .lt 8, 3) := by decide +kernel
theorem dX4_server_30 : decode cX4_server 30 = .ok (.iload 5, 2) := by decide +kernel
theorem dX4_server_32 : decode cX4_server 32 = .ok (.ifCond .ge 10, 3) := by decide +kernel
theorem dX4_server_35 : decode cX4_server 35 = .ok (.aload_n 0, 1) := by decide +kernel
theorem dX4_server_36 : decode cX4_server 36 = .ok (.bipush (-4), 2) := by decide +kernel
theorem dX4_server_38 : decode cX4_server 38 = .ok (.invokevirtual 124, 3) := by decide +kernel
theorem dX4_server_41 : decode cX4_server 41 = .ok (.ireturn, 1) := by decide +kernel
theorem dX4_server_42 : decode cX4_server 42 = .ok (.iload_n 1, 1) := by decide +kernel
theorem dX4_server_43 : decode cX4_server 43 = .ok (.bipush 100, 2) := by decide +kernel
theorem dX4_server_45 : decode cX4_server 45 = .ok (.if_icmp .gt 33, 3) := by decide +kernel
theorem dX4_server_48 : decode cX4_server 48 = .ok (.iload_n 3, 1) := by decide +kernel
theorem dX4_server_49 : decode cX4_server 49 = .ok (.bipush 20, 2) := by decide +kernel
theorem dX4_server_51 : decode cX4_server 51 = .ok (.if_icmp .gt 27, 3) := by decide +kernel
theorem dX4_server_54 : decode cX4_server 54 = .ok (.iload 4, 2) := by decide +kernel
theorem dX4_server_56 : decode cX4_server 56 = .ok (.sipush 200, 3) := by decide +kernel
theorem dX4_server_59 : decode cX4_server 59 = .ok (.if_icmp .gt 19, 3) := by decide +kernel
theorem dX4_server_62 : decode cX4_server 62 = .ok (.iload 5, 2) := by decide +kernel
theorem dX4_server_64 : decode cX4_server 64 = .ok (.bipush 20, 2) := by decide +kernel
theorem dX4_server_66 : decode cX4_server 66 = .ok (.if_icmp .gt 12, 3) := by decide +kernel
theorem dX4_server_69 : decode cX4_server 69 = .ok (.aload_n 0, 1) := by decide +kernel
theorem dX4_server_70 : decode cX4_server 70 = .ok (.getfield 114, 3) := by decide +kernel
theorem dX4_server_73 : decode cX4_server 73 = .ok (.bipush 8, 2) := by decide +kernel
theorem dX4_server_75 : decode cX4_server 75 = .ok (.if_icmp .ne 10, 3) := by decide +kernel
theorem dX4_server_78 : decode cX4_server 78 = .ok (.aload_n 0, 1) := by decide +kernel
theorem dX4_server_79 : decode cX4_server 79 = .ok (.bipush (-6), 2) := by decide +kernel
theorem dX4_server_81 : decode cX4_server 81 = .ok (.invokevirtual 124, 3) := by decide +kernel
theorem dX4_server_84 : decode cX4_server 84 = .ok (.ireturn, 1) := by decide +kernel
theorem dX4_server_85 : decode cX4_server 85 = .ok (.aload_n 0, 1) := by decide +kernel
theorem dX4_server_86 : decode cX4_server 86 = .ok (.getfield 114, 3) := by decide +kernel
theorem dX4_server_89 : decode cX4_server 89 = .ok (.istore 6, 2) := by decide +kernel
theorem dX4_server_91 : decode cX4_server 91 = .ok (.aload_n 0, 1) := by decide +kernel
theorem dX4_server_92 : decode cX4_server 92 = .ok (.dup, 1) := by decide +kernel
theorem dX4_server_93 : decode cX4_server 93 = .ok (.getfield 114, 3) := by decide +kernel
theorem dX4_server_96 : decode cX4_server 96 = .ok (.iconst 1, 1) := by decide +kernel
theorem dX4_server_97 : decode cX4_server 97 = .ok (.iadd, 1) := by decide +kernel
theorem dX4_server_98 : decode cX4_server 98 = .ok (.putfield 114, 3) := by decide +kernel
theorem dX4_server_101 : decode cX4_server 101 = .ok (.aload_n 0, 1) := by decide +kernel
theorem dX4_server_102 : decode cX4_server 102 = .ok (.getfield 20, 3) := by decide +kernel
theorem dX4_server_105 : decode cX4_server 105 = .ok (.iload 6, 2) := by decide +kernel
theorem dX4_server_107 : decode cX4_server 107 = .ok (.iload_n 1, 1) := by decide +kernel
theorem dX4_server_108 : decode cX4_server 108 = .ok (.iastore, 1) := by decide +kernel
theorem dX4_server_109 : decode cX4_server 109 = .ok (.aload_n 0, 1) := by decide +kernel
theorem dX4_server_110 : decode cX4_server 110 = .ok (.getfield 23, 3) := by decide +kernel
theorem dX4_server_113 : decode cX4_server 113 = .ok (.iload 6, 2) := by decide +kernel
theorem dX4_server_115 : decode cX4_server 115 = .ok (.iload_n 2, 1) := by decide +kernel
theorem dX4_server_116 : decode cX4_server 116 = .ok (.iastore, 1) := by decide +kernel
theorem dX4_server_117 : decode cX4_server 117 = .ok (.aload_n 0, 1) := by decide +kernel
theorem dX4_server_118 : decode cX4_server 118 = .ok (.getfield 26, 3) := by decide +kernel
theorem dX4_server_121 : decode cX4_server 121 = .ok (.iload 6, 2) := by decide +kernel
theorem dX4_server_123 : decode cX4_server 123 = .ok (.iload_n 3, 1) := by decide +kernel
theorem dX4_server_124 : decode cX4_server 124 = .ok (.iastore, 1) := by decide +kernel
theorem dX4_server_125 : decode cX4_server 125 = .ok (.aload_n 0, 1) := by decide +kernel
theorem dX4_server_126 : decode cX4_server 126 = .ok (.getfield 29, 3) := by decide +kernel
theorem dX4_server_129 : decode cX4_server 129 = .ok (.iload 6, 2) := by decide +kernel
theorem dX4_server_131 : decode cX4_server 131 = .ok (.iload 4, 2) := by decide +kernel
theorem dX4_server_133 : decode cX4_server 133 = .ok (.iastore, 1) := by decide +kernel
theorem dX4_server_134 : decode cX4_server 134 = .ok (.aload_n 0, 1) := by decide +kernel
theorem dX4_server_135 : decode cX4_server 135 = .ok (.getfield 32, 3) := by decide +kernel
theorem dX4_server_138 : decode cX4_server 138 = .ok (.iload 6, 2) := by decide +kernel
theorem dX4_server_140 : decode cX4_server 140 = .ok (.iload 5, 2) := by decide +kernel
theorem dX4_server_142 : decode cX4_server 142 = .ok (.iastore, 1) := by decide +kernel
theorem dX4_server_143 : decode cX4_server 143 = .ok (.aload_n 0, 1) := by decide +kernel
theorem dX4_server_144 : decode cX4_server 144 = .ok (.getfield 59, 3) := by decide +kernel
theorem dX4_server_147 : decode cX4_server 147 = .ok (.iload 6, 2) := by decide +kernel
theorem dX4_server_149 : decode cX4_server 149 = .ok (.bipush 10, 2) := by decide +kernel
theorem dX4_server_151 : decode cX4_server 151 = .ok (.iastore, 1) := by decide +kernel
theorem dX4_server_152 : decode cX4_server 152 = .ok (.iload 6, 2) := by decide +kernel
theorem dX4_server_154 : decode cX4_server 154 = .ok (.ireturn, 1) := by decide +kernel
theorem dX4_set_0 : decode cX4_set 0 = .ok (.aload_n 0, 1) := by decide +kernel
theorem dX4_set_1 : decode cX4_set 1 = .ok (.iload_n 1, 1) := by decide +kernel
theorem dX4_set_2 : decode cX4_set 2 = .ok (.invokevirtual 128, 3) := by decide +kernel
theorem dX4_set_5 : decode cX4_set 5 = .ok (.ifCond .ne 9, 3) := by decide +kernel
theorem dX4_set_8 : decode cX4_set 8 = .ok (.aload_n 0, 1) := by decide +kernel
theorem dX4_set_9 : decode cX4_set 9 = .ok (.iconst (-1), 1) := by decide +kernel
theorem dX4_set_10 : decode cX4_set 10 = .ok (.invokevirtual 124, 3) := by decide +kernel
theorem dX4_set_13 : decode cX4_set 13 = .ok (.ireturn, 1) := by decide +kernel
theorem dX4_set_14 : decode cX4_set 14 = .ok (.iload_n 2, 1) := by decide +kernel
theorem dX4_set_15 : decode cX4_set 15 = .ok (.iconst 5, 1) := by decide +kernel
theorem dX4_set_16 : decode cX4_set 16 = .ok (.invokestatic 117, 3) := by decide +kernel
theorem dX4_set_19 : decode cX4_set 19 = .ok (.ifCond .ne 10, 3) := by decide +kernel
theorem dX4_set_22 : decode cX4_set 22 = .ok (.aload_n 0, 1) := by decide +kernel
theorem dX4_set_23 : decode cX4_set 23 = .ok (.bipush (-2), 2) := by decide +kernel
theorem dX4_set_25 : decode cX4_set 25 = .ok (.invokevirtual 124, 3) := by decide +kernel
theorem dX4_set_28 : decode cX4_set 28 = .ok (.ireturn, 1) := by decide +kernel
theorem dX4_set_29 : decode cX4_set 29 = .ok (.aload_n 0, 1) := by decide +kernel
theorem dX4_set_30 : decode cX4_set 30 = .ok (.getfield 38, 3) := by decide +kernel
theorem dX4_set_33 : decode cX4_set 33 = .ok (.iload_n 1, 1) := by decide +kernel
theorem dX4_set_34 : decode cX4_set 34 = .ok (.iaload, 1) := by decide +kernel
theorem dX4_set_35 : decode cX4_set 35 = .ok (.iconst 4, 1) := by decide +kernel
theorem dX4_set_36 : decode cX4_set 36 = .ok (.if_icmp .ne 10, 3) := by decide +kernel
theorem dX4_set_39 : decode cX4_set 39 = .ok (.aload_n 0, 1) := by decide +kernel
theorem dX4_set_40 : decode cX4_set 40 = .ok (.bipush (-3), 2) := by decide +kernel
theorem dX4_set_42 : decode cX4_set 42 = .ok (.invokevirtual 124, 3) := by decide +kernel
theorem dX4_set_45 : decode cX4_set 45 = .ok (.ireturn, 1) := by decide +kernel
theorem dX4_set_46 : decode cX4_set 46 = .ok (.iload_n 3, 1) := by decide +kernel
theorem dX4_set_47 : decode cX4_set 47 = .ok (.iload_n 2, 1) := by decide +kernel
theorem dX4_set_48 : decode cX4_set 48 = .ok (.iconst 3, 1) := by decide +kernel
theorem dX4_set_49 : decode cX4_set 49 = .ok (.if_icmp .ge 7, 3) := by decide +kernel
theorem dX4_set_52 : decode cX4_set 52 = .ok (.iconst 1, 1) := by decide +kernel
theorem dX4_set_53 : decode cX4_set 53 = .ok (.goto 4, 3) := by decide +kernel
theorem dX4_set_56 : decode cX4_set 56 = .ok (.iconst 0, 1) := by decide +kernel
theorem dX4_set_57 : decode cX4_set 57 = .ok (.if_icmp .ge 10, 3) := by decide +kernel
theorem dX4_set_60 : decode cX4_set 60 = .ok (.aload_n 0, 1) := by decide +kernel
theorem dX4_set_61 : decode cX4_set 61 = .ok (.bipush (-4), 2) := by decide +kernel
theorem dX4_set_63 : decode cX4_set 63 = .ok (.invokevirtual 124, 3) := by decide +kernel
theorem dX4_set_66 : decode cX4_set 66 = .ok (.ireturn, 1) := by decide +kernel
theorem dX4_set_67 : decode cX4_set 67 = .ok (.iload_n 3, 1) := by decide +kernel
theorem dX4_set_68 : decode cX4_set 68 = .ok (.iload_n 2, 1) := by decide +kernel
theorem dX4_set_69 : decode cX4_set 69 = .ok (.ifCond .ne 8, 3) := by decide +kernel
theorem dX4_set_72 : decode cX4_set 72 = .ok (.bipush 100, 2) := by decide +kernel
theorem dX4_set_74 : decode cX4_set 74 = .ok (.goto 30, 3) := by decide +kernel
theorem dX4_set_77 : decode cX4_set 77 = .ok (.iload_n 2, 1) := by decide +kernel
theorem dX4_set_78 : decode cX4_set 78 = .ok (.iconst 1, 1) := by decide +kernel
theorem dX4_set_79 : decode cX4_set 79 = .ok (.if_icmp .eq 8, 3) := by decide +kernel
theorem dX4_set_82 : decode cX4_set 82 = .ok (.iload_n 2, 1) := by decide +kernel
theorem dX4_set_83 : decode cX4_set 83 = .ok (.iconst 3, 1) := by decide +kernel
theorem dX4_set_84 : decode cX4_set 84 = .ok (.if_icmp .ne 8, 3) := by decide +kernel
theorem dX4_set_87 : decode cX4_set 87 = .ok (.bipush 20, 2) := by decide +kernel
theorem dX4_set_89 : decode cX4_set 89 = .ok (.goto 15, 3) := by decide +kernel
theorem dX4_set_92 : decode cX4_set 92 = .ok (.iload_n 2, 1) := by decide +kernel
theorem dX4_set_93 : decode cX4_set 93 = .ok (.iconst 2, 1) := by decide +kernel
theorem dX4_set_94 : decode cX4_set 94 = .ok (.if_icmp .ne 9, 3) := by decide +kernel
theorem dX4_set_97 : decode cX4_set 97 = .ok (.sipush 200, 3) := by decide +kernel
theorem dX4_set_100 : decode cX4_set 100 = .ok (.goto 4, 3) := by decide +kernel
theorem dX4_set_103 : decode cX4_set 103 = .ok (.iconst 1, 1) := by decide +kernel
theorem dX4_set_104 : decode cX4_set 104 = .ok (.if_icmp .le 10, 3) := by decide +kernel
theorem dX4_set_107 : decode cX4_set 107 = .ok (.aload_n 0, 1) := by decide +kernel
theorem dX4_set_108 : decode cX4_set 108 = .ok (.bipush (-6), 2) := by decide +kernel
theorem dX4_set_110 : decode cX4_set 110 = .ok (.invokevirtual 124, 3) := by decide +kernel
theorem dX4_set_113 : decode cX4_set 113 = .ok (.ireturn, 1) := by decide +kernel
theorem dX4_set_114 : decode cX4_set 114 = .ok (.aload_n 0, 1) := by decide +kernel
theorem dX4_set_115 : decode cX4_set 115 = .ok (.iload_n 1, 1) := by decide +kernel
theorem dX4_set_116 : decode cX4_set 116 = .ok (.iload_n 2, 1) := by decide +kernel
theorem dX4_set_117 : decode cX4_set 117 = .ok (.ifCond .ne 8, 3) := by decide +kernel
theorem dX4_set_120 : decode cX4_set 120 = .ok (.bipush 10, 2) := by decide +kernel
theorem dX4_set_122 : decode cX4_set 122 = .ok (.goto 7, 3) := by decide +kernel
theorem dX4_set_125 : decode cX4_set 125 = .ok (.bipush 11, 2) := by decide +kernel
theorem dX4_set_127 : decode cX4_set 127 = .ok (.iload_n 2, 1) := by decide +kernel
theorem dX4_set_128 : decode cX4_set 128 = .ok (.iadd, 1) := by decide +kernel
theorem dX4_set_129 : decode cX4_set 129 = .ok (.invokevirtual 132, 3) := by decide +kernel
theorem dX4_set_132 : decode cX4_set 132 = .ok (.istore 4, 2) := by decide +kernel
theorem dX4_set_134 : decode cX4_set 134 = .ok (.iload_n 2, 1) := by decide +kernel
theorem dX4_set_135 : decode cX4_set 135 = .ok (.ifCond .ne 13, 3) := by decide +kernel
theorem dX4_set_138 : decode cX4_set 138 = .ok (.aload_n 0, 1) := by decide +kernel
theorem dX4_set_139 : decode cX4_set 139 = .ok (.getfield 20, 3) := by decide +kernel
theorem dX4_set_142 : decode cX4_set 142 = .ok (.iload_n 1, 1) := by decide +kernel
theorem dX4_set_143 : decode cX4_set 143 = .ok (.iload_n 3, 1) := by decide +kernel
theorem dX4_set_144 : decode cX4_set 144 = .ok (.iastore, 1) := by decide +kernel
theorem dX4_set_145 : decode cX4_set 145 = .ok (.goto 55, 3) := by decide +kernel
theorem dX4_set_148 : decode cX4_set 148 = .ok (.iload_n 2, 1) := by decide +kernel
theorem dX4_set_149 : decode cX4_set 149 = .ok (.iconst 1, 1) := by decide +kernel
theorem dX4_set_150 : decode cX4_set 150 = .ok (.if_icmp .ne 13, 3) := by decide +kernel
theorem dX4_set_153 : decode cX4_set 153 = .ok (.aload_n 0, 1) := by decide +kernel
theorem dX4_set_154 : decode cX4_set 154 = .ok (.getfield 26, 3) := by decide +kernel
theorem dX4_set_157 : decode cX4_set 157 = .ok (.iload_n 1, 1) := by decide +kernel
theorem dX4_set_158 : decode cX4_set 158 = .ok (.iload_n 3, 1) := by decide +kernel
theorem dX4_set_159 : decode cX4_set 159 = .ok (.iastore, 1) := by decide +kernel
theorem dX4_set_160 : decode cX4_set 160 = .ok (.goto 40, 3) := by decide +kernel
theorem dX4_set_163 : decode cX4_set 163 = .ok (.iload_n 2, 1) := by decide +kernel
theorem dX4_set_164 : decode cX4_set 164 = .ok (.iconst 2, 1) := by decide +kernel
theorem dX4_set_165 : decode cX4_set 165 = .ok (.if_icmp .ne 13, 3) := by decide +kernel
theorem dX4_set_168 : decode cX4_set 168 = .ok (.aload_n 0, 1) := by decide +kernel
theorem dX4_set_169 : decode cX4_set 169 = .ok (.getfield 29, 3) := by decide +kernel
theorem dX4_set_172 : decode cX4_set 172 = .ok (.iload_n 1, 1) := by decide +kernel
theorem dX4_set_173 : decode cX4_set 173 = .ok (.iload_n 3, 1) := by decide +kernel
theorem dX4_set_174 : decode cX4_set 174 = .ok (.iastore, 1) := by decide +kernel
theorem dX4_set_175 : decode cX4_set 175 = .ok (.goto 25, 3) := by decide +kernel
theorem dX4_set_178 : decode cX4_set 178 = .ok (.iload_n 2, 1) := by decide +kernel
theorem dX4_set_179 : decode cX4_set 179 = .ok (.iconst 3, 1) := by decide +kernel
theorem dX4_set_180 : decode cX4_set 180 = .ok (.if_icmp .ne 13, 3) := by decide +kernel
theorem dX4_set_183 : decode cX4_set 183 = .ok (.aload_n 0, 1) := by decide +kernel
theorem dX4_set_184 : decode cX4_set 184 = .ok (.getfield 32, 3) := by decide +kernel
theorem dX4_set_187 : decode cX4_set 187 = .ok (.iload_n 1, 1) := by decide +kernel
theorem dX4_set_188 : decode cX4_set 188 = .ok (.iload_n 3, 1) := by decide +kernel
theorem dX4_set_189 : decode cX4_set 189 = .ok (.iastore, 1) := by decide +kernel
theorem dX4_set_190 : decode cX4_set 190 = .ok (.goto 10, 3) := by decide +kernel
theorem dX4_set_193 : decode cX4_set 193 = .ok (.aload_n 0, 1) := by decide +kernel
theorem dX4_set_194 : decode cX4_set 194 = .ok (.getfield 35, 3) := by decide +kernel
theorem dX4_set_197 : decode cX4_set 197 = .ok (.iload_n 1, 1) := by decide +kernel
theorem dX4_set_198 : decode cX4_set 198 = .ok (.iload_n 3, 1) := by decide +kernel
theorem dX4_set_199 : decode cX4_set 199 = .ok (.iastore, 1) := by decide +kernel
theorem dX4_set_200 : decode cX4_set 200 = .ok (.iload 4, 2) := by decide +kernel
theorem dX4_set_202 : decode cX4_set 202 = .ok (.ireturn, 1) := by decide +kernel
theorem dX4_drain_0 : decode cX4_drain 0 = .ok (.aload_n 0, 1) := by decide +kernel
theorem dX4_drain_1 : decode cX4_drain 1 = .ok (.iload_n 1, 1) := by decide +kernel
theorem dX4_drain_2 : decode cX4_drain 2 = .ok (.invokevirtual 128, 3) := by decide +kernel
theorem dX4_drain_5 : decode cX4_drain 5 = .ok (.ifCond .ne 9, 3) := by decide +kernel
theorem dX4_drain_8 : decode cX4_drain 8 = .ok (.aload_n 0, 1) := by decide +kernel
theorem dX4_drain_9 : decode cX4_drain 9 = .ok (.iconst (-1), 1) := by decide +kernel
theorem dX4_drain_10 : decode cX4_drain 10 = .ok (.invokevirtual 124, 3) := by decide +kernel
theorem dX4_drain_13 : decode cX4_drain 13 = .ok (.ireturn, 1) := by decide +kernel
theorem dX4_drain_14 : decode cX4_drain 14 = .ok (.aload_n 0, 1) := by decide +kernel
theorem dX4_drain_15 : decode cX4_drain 15 = .ok (.getfield 38, 3) := by decide +kernel
theorem dX4_drain_18 : decode cX4_drain 18 = .ok (.iload_n 1, 1) := by decide +kernel
theorem dX4_drain_19 : decode cX4_drain 19 = .ok (.iaload, 1) := by decide +kernel
theorem dX4_drain_20 : decode cX4_drain 20 = .ok (.iconst 4, 1) := by decide +kernel
theorem dX4_drain_21 : decode cX4_drain 21 = .ok (.if_icmp .eq 13, 3) := by decide +kernel
theorem dX4_drain_24 : decode cX4_drain 24 = .ok (.aload_n 0, 1) := by decide +kernel
theorem dX4_drain_25 : decode cX4_drain 25 = .ok (.getfield 38, 3) := by decide +kernel
theorem dX4_drain_28 : decode cX4_drain 28 = .ok (.iload_n 1, 1) := by decide +kernel
theorem dX4_drain_29 : decode cX4_drain 29 = .ok (.iaload, 1) := by decide +kernel
theorem dX4_drain_30 : decode cX4_drain 30 = .ok (.iconst 3, 1) := by decide +kernel
theorem dX4_drain_31 : decode cX4_drain 31 = .ok (.if_icmp .ne 10, 3) := by decide +kernel
theorem dX4_drain_34 : decode cX4_drain 34 = .ok (.aload_n 0, 1) := by decide +kernel
theorem dX4_drain_35 : decode cX4_drain 35 = .ok (.bipush (-3), 2) := by decide +kernel
theorem dX4_drain_37 : decode cX4_drain 37 = .ok (.invokevirtual 124, 3) := by decide +kernel
theorem dX4_drain_40 : decode cX4_drain 40 = .ok (.ireturn, 1) := by decide +kernel
theorem dX4_drain_41 : decode cX4_drain 41 = .ok (.aload_n 0, 1) := by decide +kernel
theorem dX4_drain_42 : decode cX4_drain 42 = .ok (.getfield 38, 3) := by decide +kernel
theorem dX4_drain_45 : decode cX4_drain 45 = .ok (.iload_n 1, 1) := by decide +kernel
theorem dX4_drain_46 : decode cX4_drain 46 = .ok (.aload_n 0, 1) := by decide +kernel
theorem dX4_drain_47 : decode cX4_drain 47 = .ok (.getfield 41, 3) := by decide +kernel
theorem dX4_drain_50 : decode cX4_drain 50 = .ok (.iload_n 1, 1) := by decide +kernel
theorem dX4_drain_51 : decode cX4_drain 51 = .ok (.iaload, 1) := by decide +kernel
theorem dX4_drain_52 : decode cX4_drain 52 = .ok (.ifCond .ne 7, 3) := by decide +kernel
theorem dX4_drain_55 : decode cX4_drain 55 = .ok (.iconst 4, 1) := by decide +kernel
theorem dX4_drain_56 : decode cX4_drain 56 = .ok (.goto 4, 3) := by decide +kernel
theorem dX4_drain_59 : decode cX4_drain 59 = .ok (.iconst 3, 1) := by decide +kernel
theorem dX4_drain_60 : decode cX4_drain 60 = .ok (.iastore, 1) := by decide +kernel
theorem dX4_drain_61 : decode cX4_drain 61 = .ok (.aload_n 0, 1) := by decide +kernel
theorem dX4_drain_62 : decode cX4_drain 62 = .ok (.getfield 41, 3) := by decide +kernel
theorem dX4_drain_65 : decode cX4_drain 65 = .ok (.iload_n 1, 1) := by decide +kernel
theorem dX4_drain_66 : decode cX4_drain 66 = .ok (.iaload, 1) := by decide +kernel
theorem dX4_drain_67 : decode cX4_drain 67 = .ok (.ireturn, 1) := by decide +kernel
theorem dX4_back_0 : decode cX4_back 0 = .ok (.aload_n 0, 1) := by decide +kernel
theorem dX4_back_1 : decode cX4_back 1 = .ok (.iload_n 1, 1) := by decide +kernel
theorem dX4_back_2 : decode cX4_back 2 = .ok (.invokevirtual 128, 3) := by decide +kernel
theorem dX4_back_5 : decode cX4_back 5 = .ok (.ifCond .ne 9, 3) := by decide +kernel
theorem dX4_back_8 : decode cX4_back 8 = .ok (.aload_n 0, 1) := by decide +kernel
theorem dX4_back_9 : decode cX4_back 9 = .ok (.iconst (-1), 1) := by decide +kernel
theorem dX4_back_10 : decode cX4_back 10 = .ok (.invokevirtual 124, 3) := by decide +kernel
theorem dX4_back_13 : decode cX4_back 13 = .ok (.ireturn, 1) := by decide +kernel
theorem dX4_back_14 : decode cX4_back 14 = .ok (.aload_n 0, 1) := by decide +kernel
theorem dX4_back_15 : decode cX4_back 15 = .ok (.getfield 38, 3) := by decide +kernel
theorem dX4_back_18 : decode cX4_back 18 = .ok (.iload_n 1, 1) := by decide +kernel
theorem dX4_back_19 : decode cX4_back 19 = .ok (.iaload, 1) := by decide +kernel
theorem dX4_back_20 : decode cX4_back 20 = .ok (.iconst 4, 1) := by decide +kernel
theorem dX4_back_21 : decode cX4_back 21 = .ok (.if_icmp .eq 20, 3) := by decide +kernel
theorem dX4_back_24 : decode cX4_back 24 = .ok (.aload_n 0, 1) := by decide +kernel
theorem dX4_back_25 : decode cX4_back 25 = .ok (.getfield 38, 3) := by decide +kernel
theorem dX4_back_28 : decode cX4_back 28 = .ok (.iload_n 1, 1) := by decide +kernel
theorem dX4_back_29 : decode cX4_back 29 = .ok (.iaload, 1) := by decide +kernel
theorem dX4_back_30 : decode cX4_back 30 = .ok (.iconst 3, 1) := by decide +kernel
theorem dX4_back_31 : decode cX4_back 31 = .ok (.if_icmp .eq 10, 3) := by decide +kernel
theorem dX4_back_34 : decode cX4_back 34 = .ok (.aload_n 0, 1) := by decide +kernel
theorem dX4_back_35 : decode cX4_back 35 = .ok (.bipush (-3), 2) := by decide +kernel
theorem dX4_back_37 : decode cX4_back 37 = .ok (.invokevirtual 124, 3) := by decide +kernel
theorem dX4_back_40 : decode cX4_back 40 = .ok (.ireturn, 1) := by decide +kernel
theorem dX4_back_41 : decode cX4_back 41 = .ok (.aload_n 0, 1) := by decide +kernel
theorem dX4_back_42 : decode cX4_back 42 = .ok (.getfield 38, 3) := by decide +kernel
theorem dX4_back_45 : decode cX4_back 45 = .ok (.iload_n 1, 1) := by decide +kernel
theorem dX4_back_46 : decode cX4_back 46 = .ok (.iconst 2, 1) := by decide +kernel
theorem dX4_back_47 : decode cX4_back 47 = .ok (.iastore, 1) := by decide +kernel
theorem dX4_back_48 : decode cX4_back 48 = .ok (.aload_n 0, 1) := by decide +kernel
theorem dX4_back_49 : decode cX4_back 49 = .ok (.getfield 53, 3) := by decide +kernel
theorem dX4_back_52 : decode cX4_back 52 = .ok (.iload_n 1, 1) := by decide +kernel
theorem dX4_back_53 : decode cX4_back 53 = .ok (.iconst 0, 1) := by decide +kernel
theorem dX4_back_54 : decode cX4_back 54 = .ok (.iastore, 1) := by decide +kernel
theorem dX4_back_55 : decode cX4_back 55 = .ok (.aload_n 0, 1) := by decide +kernel
theorem dX4_back_56 : decode cX4_back 56 = .ok (.getfield 59, 3) := by decide +kernel
theorem dX4_back_59 : decode cX4_back 59 = .ok (.iload_n 1, 1) := by decide +kernel
theorem dX4_back_60 : decode cX4_back 60 = .ok (.bipush 10, 2) := by decide +kernel
theorem dX4_back_62 : decode cX4_back 62 = .ok (.iastore, 1) := by decide +kernel
theorem dX4_back_63 : decode cX4_back 63 = .ok (.iconst 1, 1) := by decide +kernel
theorem dX4_back_64 : decode cX4_back 64 = .ok (.ireturn, 1) := by decide +kernel
theorem dX4_rule_0 : decode cX4_rule 0 = .ok (.iload_n 1, 1) := by decide +kernel
theorem dX4_rule_1 : decode cX4_rule 1 = .ok (.iconst 4, 1) := by decide +kernel
theorem dX4_rule_2 : decode cX4_rule 2 = .ok (.invokestatic 117, 3) := by decide +kernel
theorem dX4_rule_5 : decode cX4_rule 5 = .ok (.ifCond .ne 9, 3) := by decide +kernel
theorem dX4_rule_8 : decode cX4_rule 8 = .ok (.aload_n 0, 1) := by decide +kernel
theorem dX4_rule_9 : decode cX4_rule 9 = .ok (.iconst (-1), 1) := by decide +kernel
theorem dX4_rule_10 : decode cX4_rule 10 = .ok (.invokevirtual 124, 3) := by decide +kernel
theorem dX4_rule_13 : decode cX4_rule 13 = .ok (.ireturn, 1) := by decide +kernel
theorem dX4_rule_14 : decode cX4_rule 14 = .ok (.aload_n 0, 1) := by decide +kernel
theorem dX4_rule_15 : decode cX4_rule 15 = .ok (.getfield 136, 3) := by decide +kernel
theorem dX4_rule_18 : decode cX4_rule 18 = .ok (.istore_n 2, 1) := by decide +kernel
theorem dX4_rule_19 : decode cX4_rule 19 = .ok (.aload_n 0, 1) := by decide +kernel
theorem dX4_rule_20 : decode cX4_rule 20 = .ok (.iload_n 1, 1) := by decide +kernel
theorem dX4_rule_21 : decode cX4_rule 21 = .ok (.putfield 136, 3) := by decide +kernel
theorem dX4_rule_24 : decode cX4_rule 24 = .ok (.iload_n 2, 1) := by decide +kernel
theorem dX4_rule_25 : decode cX4_rule 25 = .ok (.ireturn, 1) := by decide +kernel
theorem dX4_limit_0 : decode cX4_limit 0 = .ok (.iload_n 1, 1) := by decide +kernel
theorem dX4_limit_1 : decode cX4_limit 1 = .ok (.iconst 1, 1) := by decide +kernel
theorem dX4_limit_2 : decode cX4_limit 2 = .ok (.if_icmp .ge 10, 3) := by decide +kernel
theorem dX4_limit_5 : decode cX4_limit 5 = .ok (.aload_n 0, 1) := by decide +kernel
theorem dX4_limit_6 : decode cX4_limit 6 = .ok (.bipush (-4), 2) := by decide +kernel
theorem dX4_limit_8 : decode cX4_limit 8 = .ok (.invokevirtual 124, 3) := by decide +kernel
theorem dX4_limit_11 : decode cX4_limit 11 = .ok (.ireturn, 1) := by decide +kernel
theorem dX4_limit_12 : decode cX4_limit 12 = .ok (.iload_n 1, 1) := by decide +kernel
theorem dX4_limit_13 : decode cX4_limit 13 = .ok (.bipush 10, 2) := by decide +kernel
theorem dX4_limit_15 : decode cX4_limit 15 = .ok (.if_icmp .le 10, 3) := by decide +kernel
theorem dX4_limit_18 : decode cX4_limit 18 = .ok (.aload_n 0, 1) := by decide +kernel
theorem dX4_limit_19 : decode cX4_limit 19 = .ok (.bipush (-6), 2) := by decide +kernel
theorem dX4_limit_21 : decode cX4_limit 21 = .ok (.invokevirtual 124, 3) := by decide +kernel
theorem dX4_limit_24 : decode cX4_limit 24 = .ok (.ireturn, 1) := by decide +kernel
theorem dX4_limit_25 : decode cX4_limit 25 = .ok (.aload_n 0, 1) := by decide +kernel
theorem dX4_limit_26 : decode cX4_limit 26 = .ok (.getfield 13, 3) := by decide +kernel
theorem dX4_limit_29 : decode cX4_limit 29 = .ok (.istore_n 2, 1) := by decide +kernel
theorem dX4_limit_30 : decode cX4_limit 30 = .ok (.aload_n 0, 1) := by decide +kernel
theorem dX4_limit_31 : decode cX4_limit 31 = .ok (.iload_n 1, 1) := by decide +kernel
theorem dX4_limit_32 : decode cX4_limit 32 = .ok (.putfield 13, 3) := by decide +kernel
theorem dX4_limit_35 : decode cX4_limit 35 = .ok (.iload_n 2, 1) := by decide +kernel
theorem dX4_limit_36 : decode cX4_limit 36 = .ok (.ireturn, 1) := by decide +kernel
theorem dX4_budget_0 : decode cX4_budget 0 = .ok (.iload_n 1, 1) := by decide +kernel
theorem dX4_budget_1 : decode cX4_budget 1 = .ok (.ifCond .ge 10, 3) := by decide +kernel
theorem dX4_budget_4 : decode cX4_budget 4 = .ok (.aload_n 0, 1) := by decide +kernel
theorem dX4_budget_5 : decode cX4_budget 5 = .ok (.bipush (-4), 2) := by decide +kernel
theorem dX4_budget_7 : decode cX4_budget 7 = .ok (.invokevirtual 124, 3) := by decide +kernel
theorem dX4_budget_10 : decode cX4_budget 10 = .ok (.ireturn, 1) := by decide +kernel
theorem dX4_budget_11 : decode cX4_budget 11 = .ok (.iload_n 1, 1) := by decide +kernel
theorem dX4_budget_12 : decode cX4_budget 12 = .ok (.bipush 100, 2) := by decide +kernel
theorem dX4_budget_14 : decode cX4_budget 14 = .ok (.if_icmp .le 10, 3) := by decide +kernel
theorem dX4_budget_17 : decode cX4_budget 17 = .ok (.aload_n 0, 1) := by decide +kernel
theorem dX4_budget_18 : decode cX4_budget 18 = .ok (.bipush (-6), 2) := by decide +kernel
theorem dX4_budget_20 : decode cX4_budget 20 = .ok (.invokevirtual 124, 3) := by decide +kernel
theorem dX4_budget_23 : decode cX4_budget 23 = .ok (.ireturn, 1) := by decide +kernel
theorem dX4_budget_24 : decode cX4_budget 24 = .ok (.aload_n 0, 1) := by decide +kernel
theorem dX4_budget_25 : decode cX4_budget 25 = .ok (.getfield 17, 3) := by decide +kernel
theorem dX4_budget_28 : decode cX4_budget 28 = .ok (.istore_n 2, 1) := by decide +kernel
theorem dX4_budget_29 : decode cX4_budget 29 = .ok (.aload_n 0, 1) := by decide +kernel
theorem dX4_budget_30 : decode cX4_budget 30 = .ok (.iload_n 1, 1) := by decide +kernel
theorem dX4_budget_31 : decode cX4_budget 31 = .ok (.putfield 17, 3) := by decide +kernel
theorem dX4_budget_34 : decode cX4_budget 34 = .ok (.iload_n 2, 1) := by decide +kernel
theorem dX4_budget_35 : decode cX4_budget 35 = .ok (.ireturn, 1) := by decide +kernel
theorem dX4_hedge_0 : decode cX4_hedge 0 = .ok (.iload_n 1, 1) := by decide +kernel
theorem dX4_hedge_1 : decode cX4_hedge 1 = .ok (.ifCond .ge 10, 3) := by decide +kernel
theorem dX4_hedge_4 : decode cX4_hedge 4 = .ok (.aload_n 0, 1) := by decide +kernel
theorem dX4_hedge_5 : decode cX4_hedge 5 = .ok (.bipush (-4), 2) := by decide +kernel
theorem dX4_hedge_7 : decode cX4_hedge 7 = .ok (.invokevirtual 124, 3) := by decide +kernel
theorem dX4_hedge_10 : decode cX4_hedge 10 = .ok (.ireturn, 1) := by decide +kernel
theorem dX4_hedge_11 : decode cX4_hedge 11 = .ok (.iload_n 1, 1) := by decide +kernel
theorem dX4_hedge_12 : decode cX4_hedge 12 = .ok (.sipush 500, 3) := by decide +kernel
theorem dX4_hedge_15 : decode cX4_hedge 15 = .ok (.if_icmp .le 10, 3) := by decide +kernel
theorem dX4_hedge_18 : decode cX4_hedge 18 = .ok (.aload_n 0, 1) := by decide +kernel
theorem dX4_hedge_19 : decode cX4_hedge 19 = .ok (.bipush (-6), 2) := by decide +kernel
theorem dX4_hedge_21 : decode cX4_hedge 21 = .ok (.invokevirtual 124, 3) := by decide +kernel
theorem dX4_hedge_24 : decode cX4_hedge 24 = .ok (.ireturn, 1) := by decide +kernel
theorem dX4_hedge_25 : decode cX4_hedge 25 = .ok (.aload_n 0, 1) := by decide +kernel
theorem dX4_hedge_26 : decode cX4_hedge 26 = .ok (.getfield 139, 3) := by decide +kernel
theorem dX4_hedge_29 : decode cX4_hedge 29 = .ok (.istore_n 2, 1) := by decide +kernel
theorem dX4_hedge_30 : decode cX4_hedge 30 = .ok (.aload_n 0, 1) := by decide +kernel
theorem dX4_hedge_31 : decode cX4_hedge 31 = .ok (.iload_n 1, 1) := by decide +kernel
theorem dX4_hedge_32 : decode cX4_hedge 32 = .ok (.putfield 139, 3) := by decide +kernel
theorem dX4_hedge_35 : decode cX4_hedge 35 = .ok (.iload_n 2, 1) := by decide +kernel
theorem dX4_hedge_36 : decode cX4_hedge 36 = .ok (.ireturn, 1) := by decide +kernel
theorem dX4_mays_0 : decode cX4_mays 0 = .ok (.iconst 0, 1) := by decide +kernel
theorem dX4_mays_1 : decode cX4_mays 1 = .ok (.istore_n 2, 1) := by decide +kernel
theorem dX4_mays_2 : decode cX4_mays 2 = .ok (.iconst 0, 1) := by decide +kernel
theorem dX4_mays_3 : decode cX4_mays 3 = .ok (.istore_n 3, 1) := by decide +kernel
theorem dX4_mays_4 : decode cX4_mays 4 = .ok (.iload_n 3, 1) := by decide +kernel
theorem dX4_mays_5 : decode cX4_mays 5 = .ok (.aload_n 0, 1) := by decide +kernel
theorem dX4_mays_6 : decode cX4_mays 6 = .ok (.getfield 114, 3) := by decide +kernel
theorem dX4_mays_9 : decode cX4_mays 9 = .ok (.if_icmp .ge 66, 3) := by decide +kernel
theorem dX4_mays_12 : decode cX4_mays 12 = .ok (.iload_n 1, 1) := by decide +kernel
theorem dX4_mays_13 : decode cX4_mays 13 = .ok (.iload_n 3, 1) := by decide +kernel
theorem dX4_mays_14 : decode cX4_mays 14 = .ok (.ishr, 1) := by decide +kernel
theorem dX4_mays_15 : decode cX4_mays 15 = .ok (.iconst 1, 1) := by decide +kernel
theorem dX4_mays_16 : decode cX4_mays 16 = .ok (.iand, 1) := by decide +kernel
theorem dX4_mays_17 : decode cX4_mays 17 = .ok (.ifCond .ne 52, 3) := by decide +kernel
theorem dX4_mays_20 : decode cX4_mays 20 = .ok (.aload_n 0, 1) := by decide +kernel
theorem dX4_mays_21 : decode cX4_mays 21 = .ok (.getfield 41, 3) := by decide +kernel
theorem dX4_mays_24 : decode cX4_mays 24 = .ok (.iload_n 3, 1) := by decide +kernel
theorem dX4_mays_25 : decode cX4_mays 25 = .ok (.iaload, 1) := by decide +kernel
theorem dX4_mays_26 : decode cX4_mays 26 = .ok (.aload_n 0, 1) := by decide +kernel
theorem dX4_mays_27 : decode cX4_mays 27 = .ok (.getfield 26, 3) := by decide +kernel
theorem dX4_mays_30 : decode cX4_mays 30 = .ok (.iload_n 3, 1) := by decide +kernel
theorem dX4_mays_31 : decode cX4_mays 31 = .ok (.iaload, 1) := by decide +kernel
theorem dX4_mays_32 : decode cX4_mays 32 = .ok (.if_icmp .ge 37, 3) := by decide +kernel
theorem dX4_mays_35 : decode cX4_mays 35 = .ok (.aload_n 0, 1) := by decide +kernel
theorem dX4_mays_36 : decode cX4_mays 36 = .ok (.getfield 38, 3) := by decide +kernel
theorem dX4_mays_39 : decode cX4_mays 39 = .ok (.iload_n 3, 1) := by decide +kernel
theorem dX4_mays_40 : decode cX4_mays 40 = .ok (.iaload, 1) := by decide +kernel
theorem dX4_mays_41 : decode cX4_mays 41 = .ok (.ifCond .eq 22, 3) := by decide +kernel
theorem dX4_mays_44 : decode cX4_mays 44 = .ok (.aload_n 0, 1) := by decide +kernel
theorem dX4_mays_45 : decode cX4_mays 45 = .ok (.getfield 38, 3) := by decide +kernel
theorem dX4_mays_48 : decode cX4_mays 48 = .ok (.iload_n 3, 1) := by decide +kernel
theorem dX4_mays_49 : decode cX4_mays 49 = .ok (.iaload, 1) := by decide +kernel
theorem dX4_mays_50 : decode cX4_mays 50 = .ok (.iconst 2, 1) := by decide +kernel
theorem dX4_mays_51 : decode cX4_mays 51 = .ok (.if_icmp .ne 18, 3) := by decide +kernel
theorem dX4_mays_54 : decode cX4_mays 54 = .ok (.aload_n 0, 1) := by decide +kernel
theorem dX4_mays_55 : decode cX4_mays 55 = .ok (.getfield 41, 3) := by decide +kernel
theorem dX4_mays_58 : decode cX4_mays 58 = .ok (.iload_n 3, 1) := by decide +kernel
theorem dX4_mays_59 : decode cX4_mays 59 = .ok (.iaload, 1) := by decide +kernel
theorem dX4_mays_60 : decode cX4_mays 60 = .ok (.ifCond .ne 9, 3) := by decide +kernel
theorem dX4_mays_63 : decode cX4_mays 63 = .ok (.iload_n 2, 1) := by decide +kernel
theorem dX4_mays_64 : decode cX4_mays 64 = .ok (.iconst 1, 1) := by decide +kernel
theorem dX4_mays_65 : decode cX4_mays 65 = .ok (.iload_n 3, 1) := by decide +kernel
theorem dX4_mays_66 : decode cX4_mays 66 = .ok (.ishl, 1) := by decide +kernel
theorem dX4_mays_67 : decode cX4_mays 67 = .ok (.ior, 1) := by decide +kernel
theorem dX4_mays_68 : decode cX4_mays 68 = .ok (.istore_n 2, 1) := by decide +kernel
theorem dX4_mays_69 : decode cX4_mays 69 = .ok (.iinc 3 1, 3) := by decide +kernel
theorem dX4_mays_72 : decode cX4_mays 72 = .ok (.goto (-68), 3) := by decide +kernel
theorem dX4_mays_75 : decode cX4_mays 75 = .ok (.iload_n 2, 1) := by decide +kernel
theorem dX4_mays_76 : decode cX4_mays 76 = .ok (.ireturn, 1) := by decide +kernel
theorem dX4_fewest_0 : decode cX4_fewest 0 = .ok (.iconst (-1), 1) := by decide +kernel
theorem dX4_fewest_1 : decode cX4_fewest 1 = .ok (.istore_n 2, 1) := by decide +kernel
theorem dX4_fewest_2 : decode cX4_fewest 2 = .ok (.iconst 0, 1) := by decide +kernel
theorem dX4_fewest_3 : decode cX4_fewest 3 = .ok (.istore_n 3, 1) := by decide +kernel
theorem dX4_fewest_4 : decode cX4_fewest 4 = .ok (.iload_n 3, 1) := by decide +kernel
theorem dX4_fewest_5 : decode cX4_fewest 5 = .ok (.aload_n 0, 1) := by decide +kernel
theorem dX4_fewest_6 : decode cX4_fewest 6 = .ok (.getfield 114, 3) := by decide +kernel
theorem dX4_fewest_9 : decode cX4_fewest 9 = .ok (.if_icmp .ge 53, 3) := by decide +kernel
theorem dX4_fewest_12 : decode cX4_fewest 12 = .ok (.iload_n 1, 1) := by decide +kernel
theorem dX4_fewest_13 : decode cX4_fewest 13 = .ok (.iload_n 3, 1) := by decide +kernel
theorem dX4_fewest_14 : decode cX4_fewest 14 = .ok (.ishr, 1) := by decide +kernel
theorem dX4_fewest_15 : decode cX4_fewest 15 = .ok (.iconst 1, 1) := by decide +kernel
theorem dX4_fewest_16 : decode cX4_fewest 16 = .ok (.iand, 1) := by decide +kernel
theorem dX4_fewest_17 : decode cX4_fewest 17 = .ok (.iconst 1, 1) := by decide +kernel
theorem dX4_fewest_18 : decode cX4_fewest 18 = .ok (.if_icmp .ne 38, 3) := by decide +kernel
theorem dX4_fewest_21 : decode cX4_fewest 21 = .ok (.iload_n 2, 1) := by decide +kernel
theorem dX4_fewest_22 : decode cX4_fewest 22 = .ok (.ifCond .lt 32, 3) := by decide +kernel
theorem dX4_fewest_25 : decode cX4_fewest 25 = .ok (.aload_n 0, 1) := by decide +kernel
theorem dX4_fewest_26 : decode cX4_fewest 26 = .ok (.getfield 41, 3) := by decide +kernel
theorem dX4_fewest_29 : decode cX4_fewest 29 = .ok (.iload_n 3, 1) := by decide +kernel
theorem dX4_fewest_30 : decode cX4_fewest 30 = .ok (.iaload, 1) := by decide +kernel
theorem dX4_fewest_31 : decode cX4_fewest 31 = .ok (.aload_n 0, 1) := by decide +kernel
theorem dX4_fewest_32 : decode cX4_fewest 32 = .ok (.getfield 20, 3) := by decide +kernel
theorem dX4_fewest_35 : decode cX4_fewest 35 = .ok (.iload_n 2, 1) := by decide +kernel
theorem dX4_fewest_36 : decode cX4_fewest 36 = .ok (.iaload, 1) := by decide +kernel
theorem dX4_fewest_37 : decode cX4_fewest 37 = .ok (.imul, 1) := by decide +kernel
theorem dX4_fewest_38 : decode cX4_fewest 38 = .ok (.aload_n 0, 1) := by decide +kernel
theorem dX4_fewest_39 : decode cX4_fewest 39 = .ok (.getfield 41, 3) := by decide +kernel
theorem dX4_fewest_42 : decode cX4_fewest 42 = .ok (.iload_n 2, 1) := by decide +kernel
theorem dX4_fewest_43 : decode cX4_fewest 43 = .ok (.iaload, 1) := by decide +kernel
theorem dX4_fewest_44 : decode cX4_fewest 44 = .ok (.aload_n 0, 1) := by decide +kernel
theorem dX4_fewest_45 : decode cX4_fewest 45 = .ok (.getfield 20, 3) := by decide +kernel
theorem dX4_fewest_48 : decode cX4_fewest 48 = .ok (.iload_n 3, 1) := by decide +kernel
theorem dX4_fewest_49 : decode cX4_fewest 49 = .ok (.iaload, 1) := by decide +kernel
theorem dX4_fewest_50 : decode cX4_fewest 50 = .ok (.imul, 1) := by decide +kernel
theorem dX4_fewest_51 : decode cX4_fewest 51 = .ok (.if_icmp .ge 5, 3) := by decide +kernel
theorem dX4_fewest_54 : decode cX4_fewest 54 = .ok (.iload_n 3, 1) := by decide +kernel
theorem dX4_fewest_55 : decode cX4_fewest 55 = .ok (.istore_n 2, 1) := by decide +kernel
theorem dX4_fewest_56 : decode cX4_fewest 56 = .ok (.iinc 3 1, 3) := by decide +kernel
theorem dX4_fewest_59 : decode cX4_fewest 59 = .ok (.goto (-55), 3) := by decide +kernel
theorem dX4_fewest_62 : decode cX4_fewest 62 = .ok (.iload_n 2, 1) := by decide +kernel
theorem dX4_fewest_63 : decode cX4_fewest 63 = .ok (.ireturn, 1) := by decide +kernel
theorem dX4_markOf_0 : decode cX4_markOf 0 = .ok (.ldc 142, 2) := by decide +kernel
theorem dX4_markOf_2 : decode cX4_markOf 2 = .ok (.iconst 4, 1) := by decide +kernel
theorem dX4_markOf_3 : decode cX4_markOf 3 = .ok (.iload_n 0, 1) := by decide +kernel
theorem dX4_markOf_4 : decode cX4_markOf 4 = .ok (.imul, 1) := by decide +kernel
theorem dX4_markOf_5 : decode cX4_markOf 5 = .ok (.iload_n 1, 1) := by decide +kernel
theorem dX4_markOf_6 : decode cX4_markOf 6 = .ok (.iadd, 1) := by decide +kernel
theorem dX4_markOf_7 : decode cX4_markOf 7 = .ok (.iconst 1, 1) := by decide +kernel
theorem dX4_markOf_8 : decode cX4_markOf 8 = .ok (.iadd, 1) := by decide +kernel
theorem dX4_markOf_9 : decode cX4_markOf 9 = .ok (.imul, 1) := by decide +kernel
theorem dX4_markOf_10 : decode cX4_markOf 10 = .ok (.ldc 143, 2) := by decide +kernel
theorem dX4_markOf_12 : decode cX4_markOf 12 = .ok (.irem, 1) := by decide +kernel
theorem dX4_markOf_13 : decode cX4_markOf 13 = .ok (.ireturn, 1) := by decide +kernel
theorem dX4_onRing_0 : decode cX4_onRing 0 = .ok (.iconst (-1), 1) := by decide +kernel
theorem dX4_onRing_1 : decode cX4_onRing 1 = .ok (.istore_n 3, 1) := by decide +kernel
theorem dX4_onRing_2 : decode cX4_onRing 2 = .ok (.ldc 143, 2) := by decide +kernel
theorem dX4_onRing_4 : decode cX4_onRing 4 = .ok (.istore 4, 2) := by decide +kernel
theorem dX4_onRing_6 : decode cX4_onRing 6 = .ok (.iconst 0, 1) := by decide +kernel
theorem dX4_onRing_7 : decode cX4_onRing 7 = .ok (.istore 5, 2) := by decide +kernel
theorem dX4_onRing_9 : decode cX4_onRing 9 = .ok (.iload 5, 2) := by decide +kernel
theorem dX4_onRing_11 : decode cX4_onRing 11 = .ok (.aload_n 0, 1) := by decide +kernel
theorem dX4_onRing_12 : decode cX4_onRing 12 = .ok (.getfield 114, 3) := by decide +kernel
theorem dX4_onRing_15 : decode cX4_onRing 15 = .ok (.if_icmp .ge 68, 3) := by decide +kernel
theorem dX4_onRing_18 : decode cX4_onRing 18 = .ok (.iconst 0, 1) := by decide +kernel
theorem dX4_onRing_19 : decode cX4_onRing 19 = .ok (.istore 6, 2) := by decide +kernel
theorem dX4_onRing_21 : decode cX4_onRing 21 = .ok (.iload 6, 2) := by decide +kernel
theorem dX4_onRing_23 : decode cX4_onRing 23 = .ok (.iconst 4, 1) := by decide +kernel
theorem dX4_onRing_24 : decode cX4_onRing 24 = .ok (.if_icmp .ge 53, 3) := by decide +kernel
theorem dX4_onRing_27 : decode cX4_onRing 27 = .ok (.iload_n 1, 1) := by decide +kernel
theorem dX4_onRing_28 : decode cX4_onRing 28 = .ok (.iload 5, 2) := by decide +kernel
theorem dX4_onRing_30 : decode cX4_onRing 30 = .ok (.ishr, 1) := by decide +kernel
theorem dX4_onRing_31 : decode cX4_onRing 31 = .ok (.iconst 1, 1) := by decide +kernel
theorem dX4_onRing_32 : decode cX4_onRing 32 = .ok (.iand, 1) := by decide +kernel
theorem dX4_onRing_33 : decode cX4_onRing 33 = .ok (.iconst 1, 1) := by decide +kernel
theorem dX4_onRing_34 : decode cX4_onRing 34 = .ok (.if_icmp .ne 43, 3) := by decide +kernel
theorem dX4_onRing_37 : decode cX4_onRing 37 = .ok (.iload 5, 2) := by decide +kernel
theorem dX4_onRing_39 : decode cX4_onRing 39 = .ok (.iload 6, 2) := by decide +kernel
theorem dX4_onRing_41 : decode cX4_onRing 41 = .ok (.invokestatic 144, 3) := by decide +kernel
theorem dX4_onRing_44 : decode cX4_onRing 44 = .ok (.iload_n 2, 1) := by decide +kernel
theorem dX4_onRing_45 : decode cX4_onRing 45 = .ok (.isub, 1) := by decide +kernel
theorem dX4_onRing_46 : decode cX4_onRing 46 = .ok (.ldc 143, 2) := by decide +kernel
theorem dX4_onRing_48 : decode cX4_onRing 48 = .ok (.iadd, 1) := by decide +kernel
theorem dX4_onRing_49 : decode cX4_onRing 49 = .ok (.ldc 143, 2) := by decide +kernel
theorem dX4_onRing_51 : decode cX4_onRing 51 = .ok (.irem, 1) := by decide +kernel
theorem dX4_onRing_52 : decode cX4_onRing 52 = .ok (.istore 7, 2) := by decide +kernel
theorem dX4_onRing_54 : decode cX4_onRing 54 = .ok (.iload 7, 2) := by decide +kernel
theorem dX4_onRing_56 : decode cX4_onRing 56 = .ok (.iload 4, 2) := by decide +kernel
theorem dX4_onRing_58 : decode cX4_onRing 58 = .ok (.if_icmp .lt 6, 3) := by decide +kernel
theorem dX4_onRing_61 : decode cX4_onRing 61 = .ok (.goto 10, 3) := by decide +kernel
theorem dX4_onRing_64 : decode cX4_onRing 64 = .ok (.iload 7, 2) := by decide +kernel
theorem dX4_onRing_66 : decode cX4_onRing 66 = .ok (.istore 4, 2) := by decide +kernel
theorem dX4_onRing_68 : decode cX4_onRing 68 = .ok (.iload 5, 2) := by decide +kernel
theorem dX4_onRing_70 : decode cX4_onRing 70 = .ok (.istore_n 3, 1) := by decide +kernel
theorem dX4_onRing_71 : decode cX4_onRing 71 = .ok (.iinc 6 1, 3) := by decide +kernel
theorem dX4_onRing_74 : decode cX4_onRing 74 = .ok (.goto (-53), 3) := by decide +kernel
theorem dX4_onRing_77 : decode cX4_onRing 77 = .ok (.iinc 5 1, 3) := by decide +kernel
theorem dX4_onRing_80 : decode cX4_onRing 80 = .ok (.goto (-71), 3) := by decide +kernel
theorem dX4_onRing_83 : decode cX4_onRing 83 = .ok (.iload_n 3, 1) := by decide +kernel
theorem dX4_onRing_84 : decode cX4_onRing 84 = .ok (.ireturn, 1) := by decide +kernel
theorem dX4_near_0 : decode cX4_near 0 = .ok (.iconst 0, 1) := by decide +kernel
theorem dX4_near_1 : decode cX4_near 1 = .ok (.istore_n 3, 1) := by decide +kernel
theorem dX4_near_2 : decode cX4_near 2 = .ok (.iconst 0, 1) := by decide +kernel
theorem dX4_near_3 : decode cX4_near 3 = .ok (.istore 4, 2) := by decide +kernel
theorem dX4_near_5 : decode cX4_near 5 = .ok (.iload 4, 2) := by decide +kernel
theorem dX4_near_7 : decode cX4_near 7 = .ok (.aload_n 0, 1) := by decide +kernel
theorem dX4_near_8 : decode cX4_near 8 = .ok (.getfield 114, 3) := by decide +kernel
theorem dX4_near_11 : decode cX4_near 11 = .ok (.if_icmp .ge 39, 3) := by decide +kernel
theorem dX4_near_14 : decode cX4_near 14 = .ok (.iload_n 1, 1) := by decide +kernel
theorem dX4_near_15 : decode cX4_near 15 = .ok (.iload 4, 2) := by decide +kernel
theorem dX4_near_17 : decode cX4_near 17 = .ok (.ishr, 1) := by decide +kernel
theorem dX4_near_18 : decode cX4_near 18 = .ok (.iconst 1, 1) := by decide +kernel
theorem dX4_near_19 : decode cX4_near 19 = .ok (.iand, 1) := by decide +kernel
theorem dX4_near_20 : decode cX4_near 20 = .ok (.iconst 1, 1) := by decide +kernel
theorem dX4_near_21 : decode cX4_near 21 = .ok (.if_icmp .ne 23, 3) := by decide +kernel
theorem dX4_near_24 : decode cX4_near 24 = .ok (.aload_n 0, 1) := by decide +kernel
theorem dX4_near_25 : decode cX4_near 25 = .ok (.getfield 23, 3) := by decide +kernel
theorem dX4_near_28 : decode cX4_near 28 = .ok (.iload 4, 2) := by decide +kernel
theorem dX4_near_30 : decode cX4_near 30 = .ok (.iaload, 1) := by decide +kernel
theorem dX4_near_31 : decode cX4_near 31 = .ok (.iload_n 2, 1) := by decide +kernel
theorem dX4_near_32 : decode cX4_near 32 = .ok (.iconst 4, 1) := by decide +kernel
theorem dX4_near_33 : decode cX4_near 33 = .ok (.irem, 1) := by decide +kernel
theorem dX4_near_34 : decode cX4_near 34 = .ok (.if_icmp .ne 10, 3) := by decide +kernel
theorem dX4_near_37 : decode cX4_near 37 = .ok (.iload_n 3, 1) := by decide +kernel
theorem dX4_near_38 : decode cX4_near 38 = .ok (.iconst 1, 1) := by decide +kernel
theorem dX4_near_39 : decode cX4_near 39 = .ok (.iload 4, 2) := by decide +kernel
theorem dX4_near_41 : decode cX4_near 41 = .ok (.ishl, 1) := by decide +kernel
theorem dX4_near_42 : decode cX4_near 42 = .ok (.ior, 1) := by decide +kernel
theorem dX4_near_43 : decode cX4_near 43 = .ok (.istore_n 3, 1) := by decide +kernel
theorem dX4_near_44 : decode cX4_near 44 = .ok (.iinc 4 1, 3) := by decide +kernel
theorem dX4_near_47 : decode cX4_near 47 = .ok (.goto (-42), 3) := by decide +kernel
theorem dX4_near_50 : decode cX4_near 50 = .ok (.aload_n 0, 1) := by decide +kernel
theorem dX4_near_51 : decode cX4_near 51 = .ok (.iload_n 3, 1) := by decide +kernel
theorem dX4_near_52 : decode cX4_near 52 = .ok (.ifCond .eq 7, 3) := by decide +kernel
theorem dX4_near_55 : decode cX4_near 55 = .ok (.iload_n 3, 1) := by decide +kernel
theorem dX4_near_56 : decode cX4_near 56 = .ok (.goto 4, 3) := by decide +kernel
theorem dX4_near_59 : decode cX4_near 59 = .ok (.iload_n 1, 1) := by decide +kernel
theorem dX4_near_60 : decode cX4_near 60 = .ok (.invokevirtual 147, 3) := by decide +kernel
theorem dX4_near_63 : decode cX4_near 63 = .ok (.ireturn, 1) := by decide +kernel
theorem dX4_byTurns_0 : decode cX4_byTurns 0 = .ok (.iconst (-1), 1) := by decide +kernel
theorem dX4_byTurns_1 : decode cX4_byTurns 1 = .ok (.istore_n 3, 1) := by decide +kernel
theorem dX4_byTurns_2 : decode cX4_byTurns 2 = .ok (.iconst 0, 1) := by decide +kernel
theorem dX4_byTurns_3 : decode cX4_byTurns 3 = .ok (.istore 4, 2) := by decide +kernel
theorem dX4_byTurns_5 : decode cX4_byTurns 5 = .ok (.iconst 0, 1) := by decide +kernel
theorem dX4_byTurns_6 : decode cX4_byTurns 6 = .ok (.istore 5, 2) := by decide +kernel
theorem dX4_byTurns_8 : decode cX4_byTurns 8 = .ok (.iload 5, 2) := by decide +kernel
theorem dX4_byTurns_10 : decode cX4_byTurns 10 = .ok (.aload_n 0, 1) := by decide +kernel
theorem dX4_byTurns_11 : decode cX4_byTurns 11 = .ok (.getfield 114, 3) := by decide +kernel
theorem dX4_byTurns_14 : decode cX4_byTurns 14 = .ok (.if_icmp .ge 71, 3) := by decide +kernel
theorem dX4_byTurns_17 : decode cX4_byTurns 17 = .ok (.iload_n 1, 1) := by decide +kernel
theorem dX4_byTurns_18 : decode cX4_byTurns 18 = .ok (.iload 5, 2) := by decide +kernel
theorem dX4_byTurns_20 : decode cX4_byTurns 20 = .ok (.ishr, 1) := by decide +kernel
theorem dX4_byTurns_21 : decode cX4_byTurns 21 = .ok (.iconst 1, 1) := by decide +kernel
theorem dX4_byTurns_22 : decode cX4_byTurns 22 = .ok (.iand, 1) := by decide +kernel
theorem dX4_byTurns_23 : decode cX4_byTurns 23 = .ok (.ifCond .ne 6, 3) := by decide +kernel
theorem dX4_byTurns_26 : decode cX4_byTurns 26 = .ok (.goto 53, 3) := by decide +kernel
theorem dX4_byTurns_29 : decode cX4_byTurns 29 = .ok (.iload 4, 2) := by decide +kernel
theorem dX4_byTurns_31 : decode cX4_byTurns 31 = .ok (.aload_n 0, 1) := by decide +kernel
theorem dX4_byTurns_32 : decode cX4_byTurns 32 = .ok (.getfield 20, 3) := by decide +kernel
theorem dX4_byTurns_35 : decode cX4_byTurns 35 = .ok (.iload 5, 2) := by decide +kernel
theorem dX4_byTurns_37 : decode cX4_byTurns 37 = .ok (.iaload, 1) := by decide +kernel
theorem dX4_byTurns_38 : decode cX4_byTurns 38 = .ok (.iadd, 1) := by decide +kernel
theorem dX4_byTurns_39 : decode cX4_byTurns 39 = .ok (.istore 4, 2) := by decide +kernel
theorem dX4_byTurns_41 : decode cX4_byTurns 41 = .ok (.iload_n 3, 1) := by decide +kernel
theorem dX4_byTurns_42 : decode cX4_byTurns 42 = .ok (.ifCond .lt 34, 3) := by decide +kernel
theorem dX4_byTurns_45 : decode cX4_byTurns 45 = .ok (.aload_n 0, 1) := by decide +kernel
theorem dX4_byTurns_46 : decode cX4_byTurns 46 = .ok (.getfield 65, 3) := by decide +kernel
theorem dX4_byTurns_49 : decode cX4_byTurns 49 = .ok (.iload 5, 2) := by decide +kernel
theorem dX4_byTurns_51 : decode cX4_byTurns 51 = .ok (.iaload, 1) := by decide +kernel
theorem dX4_byTurns_52 : decode cX4_byTurns 52 = .ok (.aload_n 0, 1) := by decide +kernel
theorem dX4_byTurns_53 : decode cX4_byTurns 53 = .ok (.getfield 20, 3) := by decide +kernel
theorem dX4_byTurns_56 : decode cX4_byTurns 56 = .ok (.iload 5, 2) := by decide +kernel
theorem dX4_byTurns_58 : decode cX4_byTurns 58 = .ok (.iaload, 1) := by decide +kernel
theorem dX4_byTurns_59 : decode cX4_byTurns 59 = .ok (.iadd, 1) := by decide +kernel
theorem dX4_byTurns_60 : decode cX4_byTurns 60 = .ok (.aload_n 0, 1) := by decide +kernel
theorem dX4_byTurns_61 : decode cX4_byTurns 61 = .ok (.getfield 65, 3) := by decide +kernel
theorem dX4_byTurns_64 : decode cX4_byTurns 64 = .ok (.iload_n 3, 1) := by decide +kernel
theorem dX4_byTurns_65 : decode cX4_byTurns 65 = .ok (.iaload, 1) := by decide +kernel
theorem dX4_byTurns_66 : decode cX4_byTurns 66 = .ok (.aload_n 0, 1) := by decide +kernel
theorem dX4_byTurns_67 : decode cX4_byTurns 67 = .ok (.getfield 20, 3) := by decide +kernel
theorem dX4_byTurns_70 : decode cX4_byTurns 70 = .ok (.iload_n 3, 1) := by decide +kernel
theorem dX4_byTurns_71 : decode cX4_byTurns 71 = .ok (.iaload, 1) := by decide +kernel
theorem dX4_byTurns_72 : decode cX4_byTurns 72 = .ok (.iadd, 1) := by decide +kernel
theorem dX4_byTurns_73 : decode cX4_byTurns 73 = .ok (.if_icmp .le 6, 3) := by decide +kernel
theorem dX4_byTurns_76 : decode cX4_byTurns 76 = .ok (.iload 5, 2) := by decide +kernel
theorem dX4_byTurns_78 : decode cX4_byTurns 78 = .ok (.istore_n 3, 1) := by decide +kernel
theorem dX4_byTurns_79 : decode cX4_byTurns 79 = .ok (.iinc 5 1, 3) := by decide +kernel
theorem dX4_byTurns_82 : decode cX4_byTurns 82 = .ok (.goto (-74), 3) := by decide +kernel
theorem dX4_byTurns_85 : decode cX4_byTurns 85 = .ok (.iconst 0, 1) := by decide +kernel
theorem dX4_byTurns_86 : decode cX4_byTurns 86 = .ok (.istore 5, 2) := by decide +kernel
theorem dX4_byTurns_88 : decode cX4_byTurns 88 = .ok (.iload 5, 2) := by decide +kernel
theorem dX4_byTurns_90 : decode cX4_byTurns 90 = .ok (.aload_n 0, 1) := by decide +kernel
theorem dX4_byTurns_91 : decode cX4_byTurns 91 = .ok (.getfield 114, 3) := by decide +kernel
theorem dX4_byTurns_94 : decode cX4_byTurns 94 = .ok (.if_icmp .ge 44, 3) := by decide +kernel
theorem dX4_byTurns_97 : decode cX4_byTurns 97 = .ok (.iload_n 2, 1) := by decide +kernel
theorem dX4_byTurns_98 : decode cX4_byTurns 98 = .ok (.ifCond .eq 40, 3) := by decide +kernel
theorem dX4_byTurns_101 : decode cX4_byTurns 101 = .ok (.aload_n 0, 1) := by decide +kernel
theorem dX4_byTurns_102 : decode cX4_byTurns 102 = .ok (.getfield 65, 3) := by decide +kernel
theorem dX4_byTurns_105 : decode cX4_byTurns 105 = .ok (.iload 5, 2) := by decide +kernel
theorem dX4_byTurns_107 : decode cX4_byTurns 107 = .ok (.dup2, 1) := by decide +kernel
theorem dX4_byTurns_108 : decode cX4_byTurns 108 = .ok (.iaload, 1) := by decide +kernel
theorem dX4_byTurns_109 : decode cX4_byTurns 109 = .ok (.iload_n 1, 1) := by decide +kernel
theorem dX4_byTurns_110 : decode cX4_byTurns 110 = .ok (.iload 5, 2) := by decide +kernel
theorem dX4_byTurns_112 : decode cX4_byTurns 112 = .ok (.ishr, 1) := by decide +kernel
theorem dX4_byTurns_113 : decode cX4_byTurns 113 = .ok (.iconst 1, 1) := by decide +kernel
theorem dX4_byTurns_114 : decode cX4_byTurns 114 = .ok (.iand, 1) := by decide +kernel
theorem dX4_byTurns_115 : decode cX4_byTurns 115 = .ok (.iconst 1, 1) := by decide +kernel
theorem dX4_byTurns_116 : decode cX4_byTurns 116 = .ok (.if_icmp .ne 13, 3) := by decide +kernel
theorem dX4_byTurns_119 : decode cX4_byTurns 119 = .ok (.aload_n 0, 1) := by decide +kernel
theorem dX4_byTurns_120 : decode cX4_byTurns 120 = .ok (.getfield 20, 3) := by decide +kernel
theorem dX4_byTurns_123 : decode cX4_byTurns 123 = .ok (.iload 5, 2) := by decide +kernel
theorem dX4_byTurns_125 : decode cX4_byTurns 125 = .ok (.iaload, 1) := by decide +kernel
theorem dX4_byTurns_126 : decode cX4_byTurns 126 = .ok (.goto 4, 3) := by decide +kernel
theorem dX4_byTurns_129 : decode cX4_byTurns 129 = .ok (.iconst 0, 1) := by decide +kernel
theorem dX4_byTurns_130 : decode cX4_byTurns 130 = .ok (.iadd, 1) := by decide +kernel
theorem dX4_byTurns_131 : decode cX4_byTurns 131 = .ok (.iastore, 1) := by decide +kernel
theorem dX4_byTurns_132 : decode cX4_byTurns 132 = .ok (.iinc 5 1, 3) := by decide +kernel
theorem dX4_byTurns_135 : decode cX4_byTurns 135 = .ok (.goto (-47), 3) := by decide +kernel
theorem dX4_byTurns_138 : decode cX4_byTurns 138 = .ok (.iload_n 2, 1) := by decide +kernel
theorem dX4_byTurns_139 : decode cX4_byTurns 139 = .ok (.ifCond .eq 14, 3) := by decide +kernel
theorem dX4_byTurns_142 : decode cX4_byTurns 142 = .ok (.aload_n 0, 1) := by decide +kernel
theorem dX4_byTurns_143 : decode cX4_byTurns 143 = .ok (.getfield 65, 3) := by decide +kernel
theorem dX4_byTurns_146 : decode cX4_byTurns 146 = .ok (.iload_n 3, 1) := by decide +kernel
theorem dX4_byTurns_147 : decode cX4_byTurns 147 = .ok (.dup2, 1) := by decide +kernel
theorem dX4_byTurns_148 : decode cX4_byTurns 148 = .ok (.iaload, 1) := by decide +kernel
theorem dX4_byTurns_149 : decode cX4_byTurns 149 = .ok (.iload 4, 2) := by decide +kernel
theorem dX4_byTurns_151 : decode cX4_byTurns 151 = .ok (.isub, 1) := by decide +kernel
theorem dX4_byTurns_152 : decode cX4_byTurns 152 = .ok (.iastore, 1) := by decide +kernel
theorem dX4_byTurns_153 : decode cX4_byTurns 153 = .ok (.iload_n 3, 1) := by decide +kernel
theorem dX4_byTurns_154 : decode cX4_byTurns 154 = .ok (.ireturn, 1) := by decide +kernel
theorem dX4_picked_0 : decode cX4_picked 0 = .ok (.aload_n 0, 1) := by decide +kernel
theorem dX4_picked_1 : decode cX4_picked 1 = .ok (.getfield 136, 3) := by decide +kernel
theorem dX4_picked_4 : decode cX4_picked 4 = .ok (.tableswitch 48 0 2 #[28, 35, 41], 28) := by decide +kernel
theorem dX4_picked_32 : decode cX4_picked 32 = .ok (.aload_n 0, 1) := by decide +kernel
theorem dX4_picked_33 : decode cX4_picked 33 = .ok (.iload_n 1, 1) := by decide +kernel
theorem dX4_picked_34 : decode cX4_picked 34 = .ok (.iload_n 3, 1) := by decide +kernel
theorem dX4_picked_35 : decode cX4_picked 35 = .ok (.invokevirtual 150, 3) := by decide +kernel
theorem dX4_picked_38 : decode cX4_picked 38 = .ok (.ireturn, 1) := by decide +kernel
theorem dX4_picked_39 : decode cX4_picked 39 = .ok (.aload_n 0, 1) := by decide +kernel
theorem dX4_picked_40 : decode cX4_picked 40 = .ok (.iload_n 1, 1) := by decide +kernel
theorem dX4_picked_41 : decode cX4_picked 41 = .ok (.invokevirtual 147, 3) := by decide +kernel
theorem dX4_picked_44 : decode cX4_picked 44 = .ok (.ireturn, 1) := by decide +kernel
theorem dX4_picked_45 : decode cX4_picked 45 = .ok (.aload_n 0, 1) := by decide +kernel
theorem dX4_picked_46 : decode cX4_picked 46 = .ok (.iload_n 1, 1) := by decide +kernel
theorem dX4_picked_47 : decode cX4_picked 47 = .ok (.iload_n 2, 1) := by decide +kernel
theorem dX4_picked_48 : decode cX4_picked 48 = .ok (.invokevirtual 154, 3) := by decide +kernel
theorem dX4_picked_51 : decode cX4_picked 51 = .ok (.ireturn, 1) := by decide +kernel
theorem dX4_picked_52 : decode cX4_picked 52 = .ok (.aload_n 0, 1) := by decide +kernel
theorem dX4_picked_53 : decode cX4_picked 53 = .ok (.iload_n 1, 1) := by decide +kernel
theorem dX4_picked_54 : decode cX4_picked 54 = .ok (.iload_n 2, 1) := by decide +kernel
theorem dX4_picked_55 : decode cX4_picked 55 = .ok (.invokevirtual 157, 3) := by decide +kernel
theorem dX4_picked_58 : decode cX4_picked 58 = .ok (.ireturn, 1) := by decide +kernel
theorem dX4_ask_0 : decode cX4_ask 0 = .ok (.aload_n 0, 1) := by decide +kernel
theorem dX4_ask_1 : decode cX4_ask 1 = .ok (.getfield 44, 3) := by decide +kernel
theorem dX4_ask_4 : decode cX4_ask 4 = .ok (.iload_n 2, 1) := by decide +kernel
theorem dX4_ask_5 : decode cX4_ask 5 = .ok (.dup2, 1) := by decide +kernel
theorem dX4_ask_6 : decode cX4_ask 6 = .ok (.iaload, 1) := by decide +kernel
theorem dX4_ask_7 : decode cX4_ask 7 = .ok (.iconst 1, 1) := by decide +kernel
theorem dX4_ask_8 : decode cX4_ask 8 = .ok (.iadd, 1) := by decide +kernel
theorem dX4_ask_9 : decode cX4_ask 9 = .ok (.iastore, 1) := by decide +kernel
theorem dX4_ask_10 : decode cX4_ask 10 = .ok (.aload_n 0, 1) := by decide +kernel
theorem dX4_ask_11 : decode cX4_ask 11 = .ok (.dup, 1) := by decide +kernel
theorem dX4_ask_12 : decode cX4_ask 12 = .ok (.getfield 160, 3) := by decide +kernel
theorem dX4_ask_15 : decode cX4_ask 15 = .ok (.iconst 1, 1) := by decide +kernel
theorem dX4_ask_16 : decode cX4_ask 16 = .ok (.iadd, 1) := by decide +kernel
theorem dX4_ask_17 : decode cX4_ask 17 = .ok (.putfield 160, 3) := by decide +kernel
theorem dX4_ask_20 : decode cX4_ask 20 = .ok (.aload_n 0, 1) := by decide +kernel
theorem dX4_ask_21 : decode cX4_ask 21 = .ok (.getfield 41, 3) := by decide +kernel
theorem dX4_ask_24 : decode cX4_ask 24 = .ok (.iload_n 2, 1) := by decide +kernel
theorem dX4_ask_25 : decode cX4_ask 25 = .ok (.dup2, 1) := by decide +kernel
theorem dX4_ask_26 : decode cX4_ask 26 = .ok (.iaload, 1) := by decide +kernel
theorem dX4_ask_27 : decode cX4_ask 27 = .ok (.iconst 1, 1) := by decide +kernel
theorem dX4_ask_28 : decode cX4_ask 28 = .ok (.iadd, 1) := by decide +kernel
theorem dX4_ask_29 : decode cX4_ask 29 = .ok (.iastore, 1) := by decide +kernel
theorem dX4_ask_30 : decode cX4_ask 30 = .ok (.iconst 2, 1) := by decide +kernel
theorem dX4_ask_31 : decode cX4_ask 31 = .ok (.iload_n 1, 1) := by decide +kernel
theorem dX4_ask_32 : decode cX4_ask 32 = .ok (.imul, 1) := by decide +kernel
theorem dX4_ask_33 : decode cX4_ask 33 = .ok (.aload_n 0, 1) := by decide +kernel
theorem dX4_ask_34 : decode cX4_ask 34 = .ok (.getfield 80, 3) := by decide +kernel
theorem dX4_ask_37 : decode cX4_ask 37 = .ok (.iload_n 1, 1) := by decide +kernel
theorem dX4_ask_38 : decode cX4_ask 38 = .ok (.iaload, 1) := by decide +kernel
theorem dX4_ask_39 : decode cX4_ask 39 = .ok (.iadd, 1) := by decide +kernel
theorem dX4_ask_40 : decode cX4_ask 40 = .ok (.istore_n 3, 1) := by decide +kernel
theorem dX4_ask_41 : decode cX4_ask 41 = .ok (.aload_n 0, 1) := by decide +kernel
theorem dX4_ask_42 : decode cX4_ask 42 = .ok (.getfield 99, 3) := by decide +kernel
theorem dX4_ask_45 : decode cX4_ask 45 = .ok (.iload_n 3, 1) := by decide +kernel
theorem dX4_ask_46 : decode cX4_ask 46 = .ok (.iload_n 2, 1) := by decide +kernel
theorem dX4_ask_47 : decode cX4_ask 47 = .ok (.iastore, 1) := by decide +kernel
theorem dX4_ask_48 : decode cX4_ask 48 = .ok (.aload_n 0, 1) := by decide +kernel
theorem dX4_ask_49 : decode cX4_ask 49 = .ok (.getfield 102, 3) := by decide +kernel
theorem dX4_ask_52 : decode cX4_ask 52 = .ok (.iload_n 3, 1) := by decide +kernel
theorem dX4_ask_53 : decode cX4_ask 53 = .ok (.aload_n 0, 1) := by decide +kernel
theorem dX4_ask_54 : decode cX4_ask 54 = .ok (.getfield 163, 3) := by decide +kernel
theorem dX4_ask_57 : decode cX4_ask 57 = .ok (.iastore, 1) := by decide +kernel
theorem dX4_ask_58 : decode cX4_ask 58 = .ok (.aload_n 0, 1) := by decide +kernel
theorem dX4_ask_59 : decode cX4_ask 59 = .ok (.getfield 105, 3) := by decide +kernel
theorem dX4_ask_62 : decode cX4_ask 62 = .ok (.iload_n 3, 1) := by decide +kernel
theorem dX4_ask_63 : decode cX4_ask 63 = .ok (.aload_n 0, 1) := by decide +kernel
theorem dX4_ask_64 : decode cX4_ask 64 = .ok (.getfield 35, 3) := by decide +kernel
theorem dX4_ask_67 : decode cX4_ask 67 = .ok (.iload_n 2, 1) := by decide +kernel
theorem dX4_ask_68 : decode cX4_ask 68 = .ok (.iaload, 1) := by decide +kernel
theorem dX4_ask_69 : decode cX4_ask 69 = .ok (.iconst 1, 1) := by decide +kernel
theorem dX4_ask_70 : decode cX4_ask 70 = .ok (.if_icmp .ne 8, 3) := by decide +kernel
theorem dX4_ask_73 : decode cX4_ask 73 = .ok (.ldc 166, 2) := by decide +kernel
theorem dX4_ask_75 : decode cX4_ask 75 = .ok (.goto 14, 3) := by decide +kernel
theorem dX4_ask_78 : decode cX4_ask 78 = .ok (.aload_n 0, 1) := by decide +kernel
theorem dX4_ask_79 : decode cX4_ask 79 = .ok (.getfield 163, 3) := by decide +kernel
theorem dX4_ask_82 : decode cX4_ask 82 = .ok (.aload_n 0, 1) := by decide +kernel
theorem dX4_ask_83 : decode cX4_ask 83 = .ok (.getfield 29, 3) := by decide +kernel
theorem dX4_ask_86 : decode cX4_ask 86 = .ok (.iload_n 2, 1) := by decide +kernel
theorem dX4_ask_87 : decode cX4_ask 87 = .ok (.iaload, 1) := by decide +kernel
theorem dX4_ask_88 : decode cX4_ask 88 = .ok (.iadd, 1) := by decide +kernel
theorem dX4_ask_89 : decode cX4_ask 89 = .ok (.iastore, 1) := by decide +kernel
theorem dX4_ask_90 : decode cX4_ask 90 = .ok (.aload_n 0, 1) := by decide +kernel
theorem dX4_ask_91 : decode cX4_ask 91 = .ok (.getfield 108, 3) := by decide +kernel
theorem dX4_ask_94 : decode cX4_ask 94 = .ok (.iload_n 3, 1) := by decide +kernel
theorem dX4_ask_95 : decode cX4_ask 95 = .ok (.aload_n 0, 1) := by decide +kernel
theorem dX4_ask_96 : decode cX4_ask 96 = .ok (.getfield 32, 3) := by decide +kernel
theorem dX4_ask_99 : decode cX4_ask 99 = .ok (.iload_n 2, 1) := by decide +kernel
theorem dX4_ask_100 : decode cX4_ask 100 = .ok (.iaload, 1) := by decide +kernel
theorem dX4_ask_101 : decode cX4_ask 101 = .ok (.ifCond .le 23, 3) := by decide +kernel
theorem dX4_ask_104 : decode cX4_ask 104 = .ok (.aload_n 0, 1) := by decide +kernel
theorem dX4_ask_105 : decode cX4_ask 105 = .ok (.getfield 44, 3) := by decide +kernel
theorem dX4_ask_108 : decode cX4_ask 108 = .ok (.iload_n 2, 1) := by decide +kernel
theorem dX4_ask_109 : decode cX4_ask 109 = .ok (.iaload, 1) := by decide +kernel
theorem dX4_ask_110 : decode cX4_ask 110 = .ok (.aload_n 0, 1) := by decide +kernel
theorem dX4_ask_111 : decode cX4_ask 111 = .ok (.getfield 32, 3) := by decide +kernel
theorem dX4_ask_114 : decode cX4_ask 114 = .ok (.iload_n 2, 1) := by decide +kernel
theorem dX4_ask_115 : decode cX4_ask 115 = .ok (.iaload, 1) := by decide +kernel
theorem dX4_ask_116 : decode cX4_ask 116 = .ok (.irem, 1) := by decide +kernel
theorem dX4_ask_117 : decode cX4_ask 117 = .ok (.ifCond .ne 7, 3) := by decide +kernel
theorem dX4_ask_120 : decode cX4_ask 120 = .ok (.iconst 1, 1) := by decide +kernel
theorem dX4_ask_121 : decode cX4_ask 121 = .ok (.goto 4, 3) := by decide +kernel
theorem dX4_ask_124 : decode cX4_ask 124 = .ok (.iconst 0, 1) := by decide +kernel
theorem dX4_ask_125 : decode cX4_ask 125 = .ok (.bastore, 1) := by decide +kernel
theorem dX4_ask_126 : decode cX4_ask 126 = .ok (.aload_n 0, 1) := by decide +kernel
theorem dX4_ask_127 : decode cX4_ask 127 = .ok (.getfield 80, 3) := by decide +kernel
theorem dX4_ask_130 : decode cX4_ask 130 = .ok (.iload_n 1, 1) := by decide +kernel
theorem dX4_ask_131 : decode cX4_ask 131 = .ok (.dup2, 1) := by decide +kernel
theorem dX4_ask_132 : decode cX4_ask 132 = .ok (.iaload, 1) := by decide +kernel
theorem dX4_ask_133 : decode cX4_ask 133 = .ok (.iconst 1, 1) := by decide +kernel
theorem dX4_ask_134 : decode cX4_ask 134 = .ok (.iadd, 1) := by decide +kernel
theorem dX4_ask_135 : decode cX4_ask 135 = .ok (.iastore, 1) := by decide +kernel
theorem dX4_ask_136 : decode cX4_ask 136 = .ok (.aload_n 0, 1) := by decide +kernel
theorem dX4_ask_137 : decode cX4_ask 137 = .ok (.getfield 83, 3) := by decide +kernel
theorem dX4_ask_140 : decode cX4_ask 140 = .ok (.iload_n 1, 1) := by decide +kernel
theorem dX4_ask_141 : decode cX4_ask 141 = .ok (.dup2, 1) := by decide +kernel
theorem dX4_ask_142 : decode cX4_ask 142 = .ok (.iaload, 1) := by decide +kernel
theorem dX4_ask_143 : decode cX4_ask 143 = .ok (.iconst 1, 1) := by decide +kernel
theorem dX4_ask_144 : decode cX4_ask 144 = .ok (.iload_n 2, 1) := by decide +kernel
theorem dX4_ask_145 : decode cX4_ask 145 = .ok (.ishl, 1) := by decide +kernel
theorem dX4_ask_146 : decode cX4_ask 146 = .ok (.ior, 1) := by decide +kernel
theorem dX4_ask_147 : decode cX4_ask 147 = .ok (.iastore, 1) := by decide +kernel
theorem dX4_ask_148 : decode cX4_ask 148 = .ok (.aload_n 0, 1) := by decide +kernel
theorem dX4_ask_149 : decode cX4_ask 149 = .ok (.getfield 77, 3) := by decide +kernel
theorem dX4_ask_152 : decode cX4_ask 152 = .ok (.iload_n 1, 1) := by decide +kernel
theorem dX4_ask_153 : decode cX4_ask 153 = .ok (.iconst 1, 1) := by decide +kernel
theorem dX4_ask_154 : decode cX4_ask 154 = .ok (.iastore, 1) := by decide +kernel
theorem dX4_ask_155 : decode cX4_ask 155 = .ok (.return_, 1) := by decide +kernel
theorem dX4_asksFor_0 : decode cX4_asksFor 0 = .ok (.aload_n 0, 1) := by decide +kernel
theorem dX4_asksFor_1 : decode cX4_asksFor 1 = .ok (.aload_n 0, 1) := by decide +kernel
theorem dX4_asksFor_2 : decode cX4_asksFor 2 = .ok (.getfield 83, 3) := by decide +kernel
theorem dX4_asksFor_5 : decode cX4_asksFor 5 = .ok (.iload_n 1, 1) := by decide +kernel
theorem dX4_asksFor_6 : decode cX4_asksFor 6 = .ok (.iaload, 1) := by decide +kernel
theorem dX4_asksFor_7 : decode cX4_asksFor 7 = .ok (.invokevirtual 167, 3) := by decide +kernel
theorem dX4_asksFor_10 : decode cX4_asksFor 10 = .ok (.istore_n 2, 1) := by decide +kernel
theorem dX4_asksFor_11 : decode cX4_asksFor 11 = .ok (.iload_n 2, 1) := by decide +kernel
theorem dX4_asksFor_12 : decode cX4_asksFor 12 = .ok (.ifCond .ne 5, 3) := by decide +kernel
theorem dX4_asksFor_15 : decode cX4_asksFor 15 = .ok (.iconst 0, 1) := by decide +kernel
theorem dX4_asksFor_16 : decode cX4_asksFor 16 = .ok (.ireturn, 1) := by decide +kernel
theorem dX4_asksFor_17 : decode cX4_asksFor 17 = .ok (.aload_n 0, 1) := by decide +kernel
theorem dX4_asksFor_18 : decode cX4_asksFor 18 = .ok (.iload_n 1, 1) := by decide +kernel
theorem dX4_asksFor_19 : decode cX4_asksFor 19 = .ok (.aload_n 0, 1) := by decide +kernel
theorem dX4_asksFor_20 : decode cX4_asksFor 20 = .ok (.iload_n 2, 1) := by decide +kernel
theorem dX4_asksFor_21 : decode cX4_asksFor 21 = .ok (.aload_n 0, 1) := by decide +kernel
theorem dX4_asksFor_22 : decode cX4_asksFor 22 = .ok (.getfield 68, 3) := by decide +kernel
theorem dX4_asksFor_25 : decode cX4_asksFor 25 = .ok (.iload_n 1, 1) := by decide +kernel
theorem dX4_asksFor_26 : decode cX4_asksFor 26 = .ok (.iaload, 1) := by decide +kernel
theorem dX4_asksFor_27 : decode cX4_asksFor 27 = .ok (.iconst 1, 1) := by decide +kernel
theorem dX4_asksFor_28 : decode cX4_asksFor 28 = .ok (.invokevirtual 170, 3) := by decide +kernel
theorem dX4_asksFor_31 : decode cX4_asksFor 31 = .ok (.invokevirtual 174, 3) := by decide +kernel
theorem dX4_asksFor_34 : decode cX4_asksFor 34 = .ok (.iconst 1, 1) := by decide +kernel
theorem dX4_asksFor_35 : decode cX4_asksFor 35 = .ok (.ireturn, 1) := by decide +kernel
end
section
theorem dX4_call_0 : decode cX4_call 0 = .ok (.iload_n 1, 1) := by decide +kernel
theorem dX4_call_1 : decode cX4_call 1 = .ok (.ifCond .lt 12, 3) := by decide +kernel
theorem dX4_call_4 : decode cX4_call 4 = .ok (.iload_n 2, 1) := by decide +kernel
theorem dX4_call_5 : decode cX4_call 5 = .ok (.ifCond .lt 8, 3) := by decide +kernel
theorem dX4_call_8 : decode cX4_call 8 = .ok (.iload_n 3, 1) := by decide +kernel
theorem dX4_call_9 : decode cX4_call 9 = .ok (.iconst 1, 1) := by decide +kernel
theorem dX4_call_10 : decode cX4_call 10 = .ok (.if_icmp .ge 10, 3) := by decide +kernel
theorem dX4_call_13 : decode cX4_call 13 = .ok (.aload_n 0, 1) := by decide +kernel
theorem dX4_call_14 : decode cX4_call 14 = .ok (.bipush (-4), 2) := by decide +kernel
theorem dX4_call_16 : decode cX4_call 16 = .ok (.invokevirtual 124, 3) := by decide +kernel
theorem dX4_call_19 : decode cX4_call 19 = .ok (.ireturn, 1) := by decide +kernel
theorem dX4_call_20 : decode cX4_call 20 = .ok (.iload_n 1, 1) := by decide +kernel
theorem dX4_call_21 : decode cX4_call 21 = .ok (.ldc 143, 2) := by decide +kernel
theorem dX4_call_23 : decode cX4_call 23 = .ok (.if_icmp .ge 25, 3) := by decide +kernel
theorem dX4_call_26 : decode cX4_call 26 = .ok (.iload_n 2, 1) := by decide +kernel
theorem dX4_call_27 : decode cX4_call 27 = .ok (.iconst 3, 1) := by decide +kernel
theorem dX4_call_28 : decode cX4_call 28 = .ok (.if_icmp .gt 20, 3) := by decide +kernel
theorem dX4_call_31 : decode cX4_call 31 = .ok (.iload_n 3, 1) := by decide +kernel
theorem dX4_call_32 : decode cX4_call 32 = .ok (.sipush 2000, 3) := by decide +kernel
theorem dX4_call_35 : decode cX4_call 35 = .ok (.if_icmp .gt 13, 3) := by decide +kernel
theorem dX4_call_38 : decode cX4_call 38 = .ok (.aload_n 0, 1) := by decide +kernel
theorem dX4_call_39 : decode cX4_call 39 = .ok (.getfield 121, 3) := by decide +kernel
theorem dX4_call_42 : decode cX4_call 42 = .ok (.sipush 200, 3) := by decide +kernel
theorem dX4_call_45 : decode cX4_call 45 = .ok (.if_icmp .ne 10, 3) := by decide +kernel
theorem dX4_call_48 : decode cX4_call 48 = .ok (.aload_n 0, 1) := by decide +kernel
theorem dX4_call_49 : decode cX4_call 49 = .ok (.bipush (-6), 2) := by decide +kernel
theorem dX4_call_51 : decode cX4_call 51 = .ok (.invokevirtual 124, 3) := by decide +kernel
theorem dX4_call_54 : decode cX4_call 54 = .ok (.ireturn, 1) := by decide +kernel
theorem dX4_call_55 : decode cX4_call 55 = .ok (.aload_n 0, 1) := by decide +kernel
theorem dX4_call_56 : decode cX4_call 56 = .ok (.getfield 121, 3) := by decide +kernel
theorem dX4_call_59 : decode cX4_call 59 = .ok (.istore 5, 2) := by decide +kernel
theorem dX4_call_61 : decode cX4_call 61 = .ok (.aload_n 0, 1) := by decide +kernel
theorem dX4_call_62 : decode cX4_call 62 = .ok (.dup, 1) := by decide +kernel
theorem dX4_call_63 : decode cX4_call 63 = .ok (.getfield 121, 3) := by decide +kernel
theorem dX4_call_66 : decode cX4_call 66 = .ok (.iconst 1, 1) := by decide +kernel
theorem dX4_call_67 : decode cX4_call 67 = .ok (.iadd, 1) := by decide +kernel
theorem dX4_call_68 : decode cX4_call 68 = .ok (.putfield 121, 3) := by decide +kernel
theorem dX4_call_71 : decode cX4_call 71 = .ok (.aload_n 0, 1) := by decide +kernel
theorem dX4_call_72 : decode cX4_call 72 = .ok (.getfield 68, 3) := by decide +kernel
theorem dX4_call_75 : decode cX4_call 75 = .ok (.iload 5, 2) := by decide +kernel
theorem dX4_call_77 : decode cX4_call 77 = .ok (.iload_n 1, 1) := by decide +kernel
theorem dX4_call_78 : decode cX4_call 78 = .ok (.iastore, 1) := by decide +kernel
theorem dX4_call_79 : decode cX4_call 79 = .ok (.aload_n 0, 1) := by decide +kernel
theorem dX4_call_80 : decode cX4_call 80 = .ok (.getfield 71, 3) := by decide +kernel
theorem dX4_call_83 : decode cX4_call 83 = .ok (.iload 5, 2) := by decide +kernel
theorem dX4_call_85 : decode cX4_call 85 = .ok (.iload_n 2, 1) := by decide +kernel
theorem dX4_call_86 : decode cX4_call 86 = .ok (.iastore, 1) := by decide +kernel
theorem dX4_call_87 : decode cX4_call 87 = .ok (.aload_n 0, 1) := by decide +kernel
theorem dX4_call_88 : decode cX4_call 88 = .ok (.getfield 74, 3) := by decide +kernel
theorem dX4_call_91 : decode cX4_call 91 = .ok (.iload 5, 2) := by decide +kernel
theorem dX4_call_93 : decode cX4_call 93 = .ok (.aload_n 0, 1) := by decide +kernel
theorem dX4_call_94 : decode cX4_call 94 = .ok (.getfield 163, 3) := by decide +kernel
theorem dX4_call_97 : decode cX4_call 97 = .ok (.iload_n 3, 1) := by decide +kernel
theorem dX4_call_98 : decode cX4_call 98 = .ok (.iadd, 1) := by decide +kernel
theorem dX4_call_99 : decode cX4_call 99 = .ok (.iastore, 1) := by decide +kernel
theorem dX4_call_100 : decode cX4_call 100 = .ok (.aload_n 0, 1) := by decide +kernel
theorem dX4_call_101 : decode cX4_call 101 = .ok (.getfield 95, 3) := by decide +kernel
theorem dX4_call_104 : decode cX4_call 104 = .ok (.iload 5, 2) := by decide +kernel
theorem dX4_call_106 : decode cX4_call 106 = .ok (.iload 4, 2) := by decide +kernel
theorem dX4_call_108 : decode cX4_call 108 = .ok (.bastore, 1) := by decide +kernel
theorem dX4_call_109 : decode cX4_call 109 = .ok (.aload_n 0, 1) := by decide +kernel
theorem dX4_call_110 : decode cX4_call 110 = .ok (.getfield 86, 3) := by decide +kernel
theorem dX4_call_113 : decode cX4_call 113 = .ok (.iload 5, 2) := by decide +kernel
theorem dX4_call_115 : decode cX4_call 115 = .ok (.aload_n 0, 1) := by decide +kernel
theorem dX4_call_116 : decode cX4_call 116 = .ok (.getfield 163, 3) := by decide +kernel
theorem dX4_call_119 : decode cX4_call 119 = .ok (.iastore, 1) := by decide +kernel
theorem dX4_call_120 : decode cX4_call 120 = .ok (.aload_n 0, 1) := by decide +kernel
theorem dX4_call_121 : decode cX4_call 121 = .ok (.getfield 89, 3) := by decide +kernel
theorem dX4_call_124 : decode cX4_call 124 = .ok (.iload 5, 2) := by decide +kernel
theorem dX4_call_126 : decode cX4_call 126 = .ok (.bipush (-9), 2) := by decide +kernel
theorem dX4_call_128 : decode cX4_call 128 = .ok (.iastore, 1) := by decide +kernel
theorem dX4_call_129 : decode cX4_call 129 = .ok (.aload_n 0, 1) := by decide +kernel
theorem dX4_call_130 : decode cX4_call 130 = .ok (.getfield 92, 3) := by decide +kernel
theorem dX4_call_133 : decode cX4_call 133 = .ok (.iload 5, 2) := by decide +kernel
theorem dX4_call_135 : decode cX4_call 135 = .ok (.bipush (-9), 2) := by decide +kernel
theorem dX4_call_137 : decode cX4_call 137 = .ok (.iastore, 1) := by decide +kernel
theorem dX4_call_138 : decode cX4_call 138 = .ok (.aload_n 0, 1) := by decide +kernel
theorem dX4_call_139 : decode cX4_call 139 = .ok (.iload 5, 2) := by decide +kernel
theorem dX4_call_141 : decode cX4_call 141 = .ok (.invokevirtual 178, 3) := by decide +kernel
theorem dX4_call_144 : decode cX4_call 144 = .ok (.istore 6, 2) := by decide +kernel
theorem dX4_call_146 : decode cX4_call 146 = .ok (.iload 5, 2) := by decide +kernel
theorem dX4_call_148 : decode cX4_call 148 = .ok (.ireturn, 1) := by decide +kernel
theorem dX4_outsNow_0 : decode cX4_outsNow 0 = .ok (.iconst 0, 1) := by decide +kernel
theorem dX4_outsNow_1 : decode cX4_outsNow 1 = .ok (.istore_n 2, 1) := by decide +kernel
theorem dX4_outsNow_2 : decode cX4_outsNow 2 = .ok (.iconst 0, 1) := by decide +kernel
theorem dX4_outsNow_3 : decode cX4_outsNow 3 = .ok (.istore_n 3, 1) := by decide +kernel
theorem dX4_outsNow_4 : decode cX4_outsNow 4 = .ok (.iload_n 3, 1) := by decide +kernel
theorem dX4_outsNow_5 : decode cX4_outsNow 5 = .ok (.aload_n 0, 1) := by decide +kernel
theorem dX4_outsNow_6 : decode cX4_outsNow 6 = .ok (.getfield 114, 3) := by decide +kernel
theorem dX4_outsNow_9 : decode cX4_outsNow 9 = .ok (.if_icmp .ge 50, 3) := by decide +kernel
theorem dX4_outsNow_12 : decode cX4_outsNow 12 = .ok (.iload_n 2, 1) := by decide +kernel
theorem dX4_outsNow_13 : decode cX4_outsNow 13 = .ok (.aload_n 0, 1) := by decide +kernel
theorem dX4_outsNow_14 : decode cX4_outsNow 14 = .ok (.getfield 38, 3) := by decide +kernel
theorem dX4_outsNow_17 : decode cX4_outsNow 17 = .ok (.iload_n 3, 1) := by decide +kernel
theorem dX4_outsNow_18 : decode cX4_outsNow 18 = .ok (.iaload, 1) := by decide +kernel
theorem dX4_outsNow_19 : decode cX4_outsNow 19 = .ok (.iconst 1, 1) := by decide +kernel
theorem dX4_outsNow_20 : decode cX4_outsNow 20 = .ok (.if_icmp .eq 26, 3) := by decide +kernel
theorem dX4_outsNow_23 : decode cX4_outsNow 23 = .ok (.iload_n 1, 1) := by decide +kernel
theorem dX4_outsNow_24 : decode cX4_outsNow 24 = .ok (.ifCond .eq 26, 3) := by decide +kernel
theorem dX4_outsNow_27 : decode cX4_outsNow 27 = .ok (.aload_n 0, 1) := by decide +kernel
theorem dX4_outsNow_28 : decode cX4_outsNow 28 = .ok (.getfield 38, 3) := by decide +kernel
theorem dX4_outsNow_31 : decode cX4_outsNow 31 = .ok (.iload_n 3, 1) := by decide +kernel
theorem dX4_outsNow_32 : decode cX4_outsNow 32 = .ok (.iaload, 1) := by decide +kernel
theorem dX4_outsNow_33 : decode cX4_outsNow 33 = .ok (.ifCond .eq 13, 3) := by decide +kernel
theorem dX4_outsNow_36 : decode cX4_outsNow 36 = .ok (.aload_n 0, 1) := by decide +kernel
theorem dX4_outsNow_37 : decode cX4_outsNow 37 = .ok (.getfield 38, 3) := by decide +kernel
theorem dX4_outsNow_40 : decode cX4_outsNow 40 = .ok (.iload_n 3, 1) := by decide +kernel
theorem dX4_outsNow_41 : decode cX4_outsNow 41 = .ok (.iaload, 1) := by decide +kernel
theorem dX4_outsNow_42 : decode cX4_outsNow 42 = .ok (.iconst 2, 1) := by decide +kernel
theorem dX4_outsNow_43 : decode cX4_outsNow 43 = .ok (.if_icmp .ne 7, 3) := by decide +kernel
theorem dX4_outsNow_46 : decode cX4_outsNow 46 = .ok (.iconst 1, 1) := by decide +kernel
theorem dX4_outsNow_47 : decode cX4_outsNow 47 = .ok (.goto 4, 3) := by decide +kernel
theorem dX4_outsNow_50 : decode cX4_outsNow 50 = .ok (.iconst 0, 1) := by decide +kernel
theorem dX4_outsNow_51 : decode cX4_outsNow 51 = .ok (.iadd, 1) := by decide +kernel
theorem dX4_outsNow_52 : decode cX4_outsNow 52 = .ok (.istore_n 2, 1) := by decide +kernel
theorem dX4_outsNow_53 : decode cX4_outsNow 53 = .ok (.iinc 3 1, 3) := by decide +kernel
theorem dX4_outsNow_56 : decode cX4_outsNow 56 = .ok (.goto (-52), 3) := by decide +kernel
theorem dX4_outsNow_59 : decode cX4_outsNow 59 = .ok (.iload_n 2, 1) := by decide +kernel
theorem dX4_outsNow_60 : decode cX4_outsNow 60 = .ok (.ireturn, 1) := by decide +kernel
theorem dX4_failure_0 : decode cX4_failure 0 = .ok (.aload_n 0, 1) := by decide +kernel
theorem dX4_failure_1 : decode cX4_failure 1 = .ok (.getfield 50, 3) := by decide +kernel
theorem dX4_failure_4 : decode cX4_failure 4 = .ok (.iload_n 1, 1) := by decide +kernel
theorem dX4_failure_5 : decode cX4_failure 5 = .ok (.dup2, 1) := by decide +kernel
theorem dX4_failure_6 : decode cX4_failure 6 = .ok (.iaload, 1) := by decide +kernel
theorem dX4_failure_7 : decode cX4_failure 7 = .ok (.iconst 1, 1) := by decide +kernel
theorem dX4_failure_8 : decode cX4_failure 8 = .ok (.iadd, 1) := by decide +kernel
theorem dX4_failure_9 : decode cX4_failure 9 = .ok (.iastore, 1) := by decide +kernel
theorem dX4_failure_10 : decode cX4_failure 10 = .ok (.aload_n 0, 1) := by decide +kernel
theorem dX4_failure_11 : decode cX4_failure 11 = .ok (.getfield 53, 3) := by decide +kernel
theorem dX4_failure_14 : decode cX4_failure 14 = .ok (.iload_n 1, 1) := by decide +kernel
theorem dX4_failure_15 : decode cX4_failure 15 = .ok (.dup2, 1) := by decide +kernel
theorem dX4_failure_16 : decode cX4_failure 16 = .ok (.iaload, 1) := by decide +kernel
theorem dX4_failure_17 : decode cX4_failure 17 = .ok (.iconst 1, 1) := by decide +kernel
theorem dX4_failure_18 : decode cX4_failure 18 = .ok (.iadd, 1) := by decide +kernel
theorem dX4_failure_19 : decode cX4_failure 19 = .ok (.iastore, 1) := by decide +kernel
theorem dX4_failure_20 : decode cX4_failure 20 = .ok (.aload_n 0, 1) := by decide +kernel
theorem dX4_failure_21 : decode cX4_failure 21 = .ok (.getfield 38, 3) := by decide +kernel
theorem dX4_failure_24 : decode cX4_failure 24 = .ok (.iload_n 1, 1) := by decide +kernel
theorem dX4_failure_25 : decode cX4_failure 25 = .ok (.iaload, 1) := by decide +kernel
theorem dX4_failure_26 : decode cX4_failure 26 = .ok (.iconst 2, 1) := by decide +kernel
theorem dX4_failure_27 : decode cX4_failure 27 = .ok (.if_icmp .eq 25, 3) := by decide +kernel
theorem dX4_failure_30 : decode cX4_failure 30 = .ok (.aload_n 0, 1) := by decide +kernel
theorem dX4_failure_31 : decode cX4_failure 31 = .ok (.getfield 38, 3) := by decide +kernel
theorem dX4_failure_34 : decode cX4_failure 34 = .ok (.iload_n 1, 1) := by decide +kernel
theorem dX4_failure_35 : decode cX4_failure 35 = .ok (.iaload, 1) := by decide +kernel
theorem dX4_failure_36 : decode cX4_failure 36 = .ok (.ifCond .ne 20, 3) := by decide +kernel
theorem dX4_failure_39 : decode cX4_failure 39 = .ok (.aload_n 0, 1) := by decide +kernel
theorem dX4_failure_40 : decode cX4_failure 40 = .ok (.getfield 53, 3) := by decide +kernel
theorem dX4_failure_43 : decode cX4_failure 43 = .ok (.iload_n 1, 1) := by decide +kernel
theorem dX4_failure_44 : decode cX4_failure 44 = .ok (.iaload, 1) := by decide +kernel
theorem dX4_failure_45 : decode cX4_failure 45 = .ok (.aload_n 0, 1) := by decide +kernel
theorem dX4_failure_46 : decode cX4_failure 46 = .ok (.getfield 13, 3) := by decide +kernel
theorem dX4_failure_49 : decode cX4_failure 49 = .ok (.if_icmp .lt 7, 3) := by decide +kernel
theorem dX4_failure_52 : decode cX4_failure 52 = .ok (.iconst 1, 1) := by decide +kernel
theorem dX4_failure_53 : decode cX4_failure 53 = .ok (.goto 4, 3) := by decide +kernel
theorem dX4_failure_56 : decode cX4_failure 56 = .ok (.iconst 0, 1) := by decide +kernel
theorem dX4_failure_57 : decode cX4_failure 57 = .ok (.istore_n 2, 1) := by decide +kernel
theorem dX4_failure_58 : decode cX4_failure 58 = .ok (.iload_n 2, 1) := by decide +kernel
theorem dX4_failure_59 : decode cX4_failure 59 = .ok (.ifCond .ne 4, 3) := by decide +kernel
theorem dX4_failure_62 : decode cX4_failure 62 = .ok (.return_, 1) := by decide +kernel
theorem dX4_failure_63 : decode cX4_failure 63 = .ok (.aload_n 0, 1) := by decide +kernel
theorem dX4_failure_64 : decode cX4_failure 64 = .ok (.getfield 53, 3) := by decide +kernel
theorem dX4_failure_67 : decode cX4_failure 67 = .ok (.iload_n 1, 1) := by decide +kernel
theorem dX4_failure_68 : decode cX4_failure 68 = .ok (.iconst 0, 1) := by decide +kernel
theorem dX4_failure_69 : decode cX4_failure 69 = .ok (.iastore, 1) := by decide +kernel
theorem dX4_failure_70 : decode cX4_failure 70 = .ok (.aload_n 0, 1) := by decide +kernel
theorem dX4_failure_71 : decode cX4_failure 71 = .ok (.iconst 0, 1) := by decide +kernel
theorem dX4_failure_72 : decode cX4_failure 72 = .ok (.invokevirtual 181, 3) := by decide +kernel
theorem dX4_failure_75 : decode cX4_failure 75 = .ok (.iconst 1, 1) := by decide +kernel
theorem dX4_failure_76 : decode cX4_failure 76 = .ok (.iadd, 1) := by decide +kernel
theorem dX4_failure_77 : decode cX4_failure 77 = .ok (.aload_n 0, 1) := by decide +kernel
theorem dX4_failure_78 : decode cX4_failure 78 = .ok (.iconst 1, 1) := by decide +kernel
theorem dX4_failure_79 : decode cX4_failure 79 = .ok (.invokevirtual 181, 3) := by decide +kernel
theorem dX4_failure_82 : decode cX4_failure 82 = .ok (.iconst 2, 1) := by decide +kernel
theorem dX4_failure_83 : decode cX4_failure 83 = .ok (.idiv, 1) := by decide +kernel
theorem dX4_failure_84 : decode cX4_failure 84 = .ok (.if_icmp .le 11, 3) := by decide +kernel
theorem dX4_failure_87 : decode cX4_failure 87 = .ok (.aload_n 0, 1) := by decide +kernel
theorem dX4_failure_88 : decode cX4_failure 88 = .ok (.getfield 38, 3) := by decide +kernel
theorem dX4_failure_91 : decode cX4_failure 91 = .ok (.iload_n 1, 1) := by decide +kernel
theorem dX4_failure_92 : decode cX4_failure 92 = .ok (.iconst 0, 1) := by decide +kernel
theorem dX4_failure_93 : decode cX4_failure 93 = .ok (.iastore, 1) := by decide +kernel
theorem dX4_failure_94 : decode cX4_failure 94 = .ok (.return_, 1) := by decide +kernel
theorem dX4_failure_95 : decode cX4_failure 95 = .ok (.aload_n 0, 1) := by decide +kernel
theorem dX4_failure_96 : decode cX4_failure 96 = .ok (.getfield 38, 3) := by decide +kernel
theorem dX4_failure_99 : decode cX4_failure 99 = .ok (.iload_n 1, 1) := by decide +kernel
theorem dX4_failure_100 : decode cX4_failure 100 = .ok (.iconst 1, 1) := by decide +kernel
theorem dX4_failure_101 : decode cX4_failure 101 = .ok (.iastore, 1) := by decide +kernel
theorem dX4_failure_102 : decode cX4_failure 102 = .ok (.aload_n 0, 1) := by decide +kernel
theorem dX4_failure_103 : decode cX4_failure 103 = .ok (.getfield 56, 3) := by decide +kernel
theorem dX4_failure_106 : decode cX4_failure 106 = .ok (.iload_n 1, 1) := by decide +kernel
theorem dX4_failure_107 : decode cX4_failure 107 = .ok (.aload_n 0, 1) := by decide +kernel
theorem dX4_failure_108 : decode cX4_failure 108 = .ok (.getfield 163, 3) := by decide +kernel
theorem dX4_failure_111 : decode cX4_failure 111 = .ok (.aload_n 0, 1) := by decide +kernel
theorem dX4_failure_112 : decode cX4_failure 112 = .ok (.getfield 59, 3) := by decide +kernel
theorem dX4_failure_115 : decode cX4_failure 115 = .ok (.iload_n 1, 1) := by decide +kernel
theorem dX4_failure_116 : decode cX4_failure 116 = .ok (.iaload, 1) := by decide +kernel
theorem dX4_failure_117 : decode cX4_failure 117 = .ok (.iadd, 1) := by decide +kernel
theorem dX4_failure_118 : decode cX4_failure 118 = .ok (.iastore, 1) := by decide +kernel
theorem dX4_failure_119 : decode cX4_failure 119 = .ok (.aload_n 0, 1) := by decide +kernel
theorem dX4_failure_120 : decode cX4_failure 120 = .ok (.getfield 59, 3) := by decide +kernel
theorem dX4_failure_123 : decode cX4_failure 123 = .ok (.iload_n 1, 1) := by decide +kernel
theorem dX4_failure_124 : decode cX4_failure 124 = .ok (.sipush 320, 3) := by decide +kernel
theorem dX4_failure_127 : decode cX4_failure 127 = .ok (.iconst 2, 1) := by decide +kernel
theorem dX4_failure_128 : decode cX4_failure 128 = .ok (.aload_n 0, 1) := by decide +kernel
theorem dX4_failure_129 : decode cX4_failure 129 = .ok (.getfield 59, 3) := by decide +kernel
theorem dX4_failure_132 : decode cX4_failure 132 = .ok (.iload_n 1, 1) := by decide +kernel
theorem dX4_failure_133 : decode cX4_failure 133 = .ok (.iaload, 1) := by decide +kernel
theorem dX4_failure_134 : decode cX4_failure 134 = .ok (.imul, 1) := by decide +kernel
theorem dX4_failure_135 : decode cX4_failure 135 = .ok (.invokestatic 185, 3) := by decide +kernel
theorem dX4_failure_138 : decode cX4_failure 138 = .ok (.iastore, 1) := by decide +kernel
theorem dX4_failure_139 : decode cX4_failure 139 = .ok (.aload_n 0, 1) := by decide +kernel
theorem dX4_failure_140 : decode cX4_failure 140 = .ok (.getfield 62, 3) := by decide +kernel
theorem dX4_failure_143 : decode cX4_failure 143 = .ok (.iload_n 1, 1) := by decide +kernel
theorem dX4_failure_144 : decode cX4_failure 144 = .ok (.dup2, 1) := by decide +kernel
theorem dX4_failure_145 : decode cX4_failure 145 = .ok (.iaload, 1) := by decide +kernel
theorem dX4_failure_146 : decode cX4_failure 146 = .ok (.iconst 1, 1) := by decide +kernel
theorem dX4_failure_147 : decode cX4_failure 147 = .ok (.iadd, 1) := by decide +kernel
theorem dX4_failure_148 : decode cX4_failure 148 = .ok (.iastore, 1) := by decide +kernel
theorem dX4_failure_149 : decode cX4_failure 149 = .ok (.return_, 1) := by decide +kernel
theorem dX4_answer_0 : decode cX4_answer 0 = .ok (.aload_n 0, 1) := by decide +kernel
theorem dX4_answer_1 : decode cX4_answer 1 = .ok (.getfield 47, 3) := by decide +kernel
theorem dX4_answer_4 : decode cX4_answer 4 = .ok (.iload_n 1, 1) := by decide +kernel
theorem dX4_answer_5 : decode cX4_answer 5 = .ok (.dup2, 1) := by decide +kernel
theorem dX4_answer_6 : decode cX4_answer 6 = .ok (.iaload, 1) := by decide +kernel
theorem dX4_answer_7 : decode cX4_answer 7 = .ok (.iconst 1, 1) := by decide +kernel
theorem dX4_answer_8 : decode cX4_answer 8 = .ok (.iadd, 1) := by decide +kernel
theorem dX4_answer_9 : decode cX4_answer 9 = .ok (.iastore, 1) := by decide +kernel
theorem dX4_answer_10 : decode cX4_answer 10 = .ok (.aload_n 0, 1) := by decide +kernel
theorem dX4_answer_11 : decode cX4_answer 11 = .ok (.getfield 53, 3) := by decide +kernel
theorem dX4_answer_14 : decode cX4_answer 14 = .ok (.iload_n 1, 1) := by decide +kernel
theorem dX4_answer_15 : decode cX4_answer 15 = .ok (.iconst 0, 1) := by decide +kernel
theorem dX4_answer_16 : decode cX4_answer 16 = .ok (.iastore, 1) := by decide +kernel
theorem dX4_answer_17 : decode cX4_answer 17 = .ok (.aload_n 0, 1) := by decide +kernel
theorem dX4_answer_18 : decode cX4_answer 18 = .ok (.getfield 59, 3) := by decide +kernel
theorem dX4_answer_21 : decode cX4_answer 21 = .ok (.iload_n 1, 1) := by decide +kernel
theorem dX4_answer_22 : decode cX4_answer 22 = .ok (.bipush 10, 2) := by decide +kernel
theorem dX4_answer_24 : decode cX4_answer 24 = .ok (.iastore, 1) := by decide +kernel
theorem dX4_answer_25 : decode cX4_answer 25 = .ok (.aload_n 0, 1) := by decide +kernel
theorem dX4_answer_26 : decode cX4_answer 26 = .ok (.getfield 38, 3) := by decide +kernel
theorem dX4_answer_29 : decode cX4_answer 29 = .ok (.iload_n 1, 1) := by decide +kernel
theorem dX4_answer_30 : decode cX4_answer 30 = .ok (.iaload, 1) := by decide +kernel
theorem dX4_answer_31 : decode cX4_answer 31 = .ok (.iconst 2, 1) := by decide +kernel
theorem dX4_answer_32 : decode cX4_answer 32 = .ok (.if_icmp .ne 10, 3) := by decide +kernel
theorem dX4_answer_35 : decode cX4_answer 35 = .ok (.aload_n 0, 1) := by decide +kernel
theorem dX4_answer_36 : decode cX4_answer 36 = .ok (.getfield 38, 3) := by decide +kernel
theorem dX4_answer_39 : decode cX4_answer 39 = .ok (.iload_n 1, 1) := by decide +kernel
theorem dX4_answer_40 : decode cX4_answer 40 = .ok (.iconst 0, 1) := by decide +kernel
theorem dX4_answer_41 : decode cX4_answer 41 = .ok (.iastore, 1) := by decide +kernel
theorem dX4_answer_42 : decode cX4_answer 42 = .ok (.return_, 1) := by decide +kernel
theorem dX4_takes_0 : decode cX4_takes 0 = .ok (.aload_n 0, 1) := by decide +kernel
theorem dX4_takes_1 : decode cX4_takes 1 = .ok (.getfield 41, 3) := by decide +kernel
theorem dX4_takes_4 : decode cX4_takes 4 = .ok (.aload_n 0, 1) := by decide +kernel
theorem dX4_takes_5 : decode cX4_takes 5 = .ok (.getfield 99, 3) := by decide +kernel
theorem dX4_takes_8 : decode cX4_takes 8 = .ok (.iconst 2, 1) := by decide +kernel
theorem dX4_takes_9 : decode cX4_takes 9 = .ok (.iload_n 1, 1) := by decide +kernel
theorem dX4_takes_10 : decode cX4_takes 10 = .ok (.imul, 1) := by decide +kernel
theorem dX4_takes_11 : decode cX4_takes 11 = .ok (.iload_n 2, 1) := by decide +kernel
theorem dX4_takes_12 : decode cX4_takes 12 = .ok (.iadd, 1) := by decide +kernel
theorem dX4_takes_13 : decode cX4_takes 13 = .ok (.iaload, 1) := by decide +kernel
theorem dX4_takes_14 : decode cX4_takes 14 = .ok (.dup2, 1) := by decide +kernel
theorem dX4_takes_15 : decode cX4_takes 15 = .ok (.iaload, 1) := by decide +kernel
theorem dX4_takes_16 : decode cX4_takes 16 = .ok (.iconst 1, 1) := by decide +kernel
theorem dX4_takes_17 : decode cX4_takes 17 = .ok (.isub, 1) := by decide +kernel
theorem dX4_takes_18 : decode cX4_takes 18 = .ok (.iastore, 1) := by decide +kernel
theorem dX4_takes_19 : decode cX4_takes 19 = .ok (.aload_n 0, 1) := by decide +kernel
theorem dX4_takes_20 : decode cX4_takes 20 = .ok (.getfield 80, 3) := by decide +kernel
theorem dX4_takes_23 : decode cX4_takes 23 = .ok (.iload_n 1, 1) := by decide +kernel
theorem dX4_takes_24 : decode cX4_takes 24 = .ok (.dup2, 1) := by decide +kernel
theorem dX4_takes_25 : decode cX4_takes 25 = .ok (.iaload, 1) := by decide +kernel
theorem dX4_takes_26 : decode cX4_takes 26 = .ok (.iconst 1, 1) := by decide +kernel
theorem dX4_takes_27 : decode cX4_takes 27 = .ok (.isub, 1) := by decide +kernel
theorem dX4_takes_28 : decode cX4_takes 28 = .ok (.iastore, 1) := by decide +kernel
theorem dX4_takes_29 : decode cX4_takes 29 = .ok (.iload_n 2, 1) := by decide +kernel
theorem dX4_takes_30 : decode cX4_takes 30 = .ok (.iconst 1, 1) := by decide +kernel
theorem dX4_takes_31 : decode cX4_takes 31 = .ok (.if_icmp .eq 12, 3) := by decide +kernel
theorem dX4_takes_34 : decode cX4_takes 34 = .ok (.aload_n 0, 1) := by decide +kernel
theorem dX4_takes_35 : decode cX4_takes 35 = .ok (.getfield 80, 3) := by decide +kernel
theorem dX4_takes_38 : decode cX4_takes 38 = .ok (.iload_n 1, 1) := by decide +kernel
theorem dX4_takes_39 : decode cX4_takes 39 = .ok (.iaload, 1) := by decide +kernel
theorem dX4_takes_40 : decode cX4_takes 40 = .ok (.ifCond .ne 4, 3) := by decide +kernel
theorem dX4_takes_43 : decode cX4_takes 43 = .ok (.return_, 1) := by decide +kernel
theorem dX4_takes_44 : decode cX4_takes 44 = .ok (.iconst 2, 1) := by decide +kernel
theorem dX4_takes_45 : decode cX4_takes 45 = .ok (.iload_n 1, 1) := by decide +kernel
theorem dX4_takes_46 : decode cX4_takes 46 = .ok (.imul, 1) := by decide +kernel
theorem dX4_takes_47 : decode cX4_takes 47 = .ok (.istore_n 3, 1) := by decide +kernel
theorem dX4_takes_48 : decode cX4_takes 48 = .ok (.aload_n 0, 1) := by decide +kernel
theorem dX4_takes_49 : decode cX4_takes 49 = .ok (.getfield 99, 3) := by decide +kernel
theorem dX4_takes_52 : decode cX4_takes 52 = .ok (.iload_n 3, 1) := by decide +kernel
theorem dX4_takes_53 : decode cX4_takes 53 = .ok (.aload_n 0, 1) := by decide +kernel
theorem dX4_takes_54 : decode cX4_takes 54 = .ok (.getfield 99, 3) := by decide +kernel
theorem dX4_takes_57 : decode cX4_takes 57 = .ok (.iload_n 3, 1) := by decide +kernel
theorem dX4_takes_58 : decode cX4_takes 58 = .ok (.iconst 1, 1) := by decide +kernel
theorem dX4_takes_59 : decode cX4_takes 59 = .ok (.iadd, 1) := by decide +kernel
theorem dX4_takes_60 : decode cX4_takes 60 = .ok (.iaload, 1) := by decide +kernel
theorem dX4_takes_61 : decode cX4_takes 61 = .ok (.iastore, 1) := by decide +kernel
theorem dX4_takes_62 : decode cX4_takes 62 = .ok (.aload_n 0, 1) := by decide +kernel
theorem dX4_takes_63 : decode cX4_takes 63 = .ok (.getfield 102, 3) := by decide +kernel
theorem dX4_takes_66 : decode cX4_takes 66 = .ok (.iload_n 3, 1) := by decide +kernel
theorem dX4_takes_67 : decode cX4_takes 67 = .ok (.aload_n 0, 1) := by decide +kernel
theorem dX4_takes_68 : decode cX4_takes 68 = .ok (.getfield 102, 3) := by decide +kernel
theorem dX4_takes_71 : decode cX4_takes 71 = .ok (.iload_n 3, 1) := by decide +kernel
theorem dX4_takes_72 : decode cX4_takes 72 = .ok (.iconst 1, 1) := by decide +kernel
theorem dX4_takes_73 : decode cX4_takes 73 = .ok (.iadd, 1) := by decide +kernel
theorem dX4_takes_74 : decode cX4_takes 74 = .ok (.iaload, 1) := by decide +kernel
theorem dX4_takes_75 : decode cX4_takes 75 = .ok (.iastore, 1) := by decide +kernel
theorem dX4_takes_76 : decode cX4_takes 76 = .ok (.aload_n 0, 1) := by decide +kernel
theorem dX4_takes_77 : decode cX4_takes 77 = .ok (.getfield 105, 3) := by decide +kernel
theorem dX4_takes_80 : decode cX4_takes 80 = .ok (.iload_n 3, 1) := by decide +kernel
theorem dX4_takes_81 : decode cX4_takes 81 = .ok (.aload_n 0, 1) := by decide +kernel
theorem dX4_takes_82 : decode cX4_takes 82 = .ok (.getfield 105, 3) := by decide +kernel
theorem dX4_takes_85 : decode cX4_takes 85 = .ok (.iload_n 3, 1) := by decide +kernel
theorem dX4_takes_86 : decode cX4_takes 86 = .ok (.iconst 1, 1) := by decide +kernel
theorem dX4_takes_87 : decode cX4_takes 87 = .ok (.iadd, 1) := by decide +kernel
theorem dX4_takes_88 : decode cX4_takes 88 = .ok (.iaload, 1) := by decide +kernel
theorem dX4_takes_89 : decode cX4_takes 89 = .ok (.iastore, 1) := by decide +kernel
theorem dX4_takes_90 : decode cX4_takes 90 = .ok (.aload_n 0, 1) := by decide +kernel
theorem dX4_takes_91 : decode cX4_takes 91 = .ok (.getfield 108, 3) := by decide +kernel
theorem dX4_takes_94 : decode cX4_takes 94 = .ok (.iload_n 3, 1) := by decide +kernel
theorem dX4_takes_95 : decode cX4_takes 95 = .ok (.aload_n 0, 1) := by decide +kernel
theorem dX4_takes_96 : decode cX4_takes 96 = .ok (.getfield 108, 3) := by decide +kernel
theorem dX4_takes_99 : decode cX4_takes 99 = .ok (.iload_n 3, 1) := by decide +kernel
theorem dX4_takes_100 : decode cX4_takes 100 = .ok (.iconst 1, 1) := by decide +kernel
theorem dX4_takes_101 : decode cX4_takes 101 = .ok (.iadd, 1) := by decide +kernel
theorem dX4_takes_102 : decode cX4_takes 102 = .ok (.baload, 1) := by decide +kernel
theorem dX4_takes_103 : decode cX4_takes 103 = .ok (.bastore, 1) := by decide +kernel
theorem dX4_takes_104 : decode cX4_takes 104 = .ok (.return_, 1) := by decide +kernel
theorem dX4_ends_0 : decode cX4_ends 0 = .ok (.aload_n 0, 1) := by decide +kernel
theorem dX4_ends_1 : decode cX4_ends 1 = .ok (.getfield 80, 3) := by decide +kernel
theorem dX4_ends_4 : decode cX4_ends 4 = .ok (.iload_n 1, 1) := by decide +kernel
theorem dX4_ends_5 : decode cX4_ends 5 = .ok (.iaload, 1) := by decide +kernel
theorem dX4_ends_6 : decode cX4_ends 6 = .ok (.ifCond .le 12, 3) := by decide +kernel
theorem dX4_ends_9 : decode cX4_ends 9 = .ok (.aload_n 0, 1) := by decide +kernel
theorem dX4_ends_10 : decode cX4_ends 10 = .ok (.iload_n 1, 1) := by decide +kernel
theorem dX4_ends_11 : decode cX4_ends 11 = .ok (.iconst 0, 1) := by decide +kernel
theorem dX4_ends_12 : decode cX4_ends 12 = .ok (.invokevirtual 190, 3) := by decide +kernel
theorem dX4_ends_15 : decode cX4_ends 15 = .ok (.goto (-15), 3) := by decide +kernel
theorem dX4_ends_18 : decode cX4_ends 18 = .ok (.aload_n 0, 1) := by decide +kernel
theorem dX4_ends_19 : decode cX4_ends 19 = .ok (.getfield 77, 3) := by decide +kernel
theorem dX4_ends_22 : decode cX4_ends 22 = .ok (.iload_n 1, 1) := by decide +kernel
theorem dX4_ends_23 : decode cX4_ends 23 = .ok (.iload_n 2, 1) := by decide +kernel
theorem dX4_ends_24 : decode cX4_ends 24 = .ok (.iastore, 1) := by decide +kernel
theorem dX4_ends_25 : decode cX4_ends 25 = .ok (.aload_n 0, 1) := by decide +kernel
theorem dX4_ends_26 : decode cX4_ends 26 = .ok (.getfield 89, 3) := by decide +kernel
theorem dX4_ends_29 : decode cX4_ends 29 = .ok (.iload_n 1, 1) := by decide +kernel
theorem dX4_ends_30 : decode cX4_ends 30 = .ok (.aload_n 0, 1) := by decide +kernel
theorem dX4_ends_31 : decode cX4_ends 31 = .ok (.getfield 163, 3) := by decide +kernel
theorem dX4_ends_34 : decode cX4_ends 34 = .ok (.iastore, 1) := by decide +kernel
theorem dX4_ends_35 : decode cX4_ends 35 = .ok (.return_, 1) := by decide +kernel
theorem dX4_off_0 : decode cX4_off 0 = .ok (.aload_n 0, 1) := by decide +kernel
theorem dX4_off_1 : decode cX4_off 1 = .ok (.iload_n 1, 1) := by decide +kernel
theorem dX4_off_2 : decode cX4_off 2 = .ok (.invokevirtual 193, 3) := by decide +kernel
theorem dX4_off_5 : decode cX4_off 5 = .ok (.ifCond .ne 9, 3) := by decide +kernel
theorem dX4_off_8 : decode cX4_off 8 = .ok (.aload_n 0, 1) := by decide +kernel
theorem dX4_off_9 : decode cX4_off 9 = .ok (.iconst (-1), 1) := by decide +kernel
theorem dX4_off_10 : decode cX4_off 10 = .ok (.invokevirtual 124, 3) := by decide +kernel
theorem dX4_off_13 : decode cX4_off 13 = .ok (.ireturn, 1) := by decide +kernel
theorem dX4_off_14 : decode cX4_off 14 = .ok (.aload_n 0, 1) := by decide +kernel
theorem dX4_off_15 : decode cX4_off 15 = .ok (.getfield 77, 3) := by decide +kernel
theorem dX4_off_18 : decode cX4_off 18 = .ok (.iload_n 1, 1) := by decide +kernel
theorem dX4_off_19 : decode cX4_off 19 = .ok (.iaload, 1) := by decide +kernel
theorem dX4_off_20 : decode cX4_off 20 = .ok (.iconst 1, 1) := by decide +kernel
theorem dX4_off_21 : decode cX4_off 21 = .ok (.if_icmp .le 10, 3) := by decide +kernel
theorem dX4_off_24 : decode cX4_off 24 = .ok (.aload_n 0, 1) := by decide +kernel
theorem dX4_off_25 : decode cX4_off 25 = .ok (.bipush (-3), 2) := by decide +kernel
theorem dX4_off_27 : decode cX4_off 27 = .ok (.invokevirtual 124, 3) := by decide +kernel
theorem dX4_off_30 : decode cX4_off 30 = .ok (.ireturn, 1) := by decide +kernel
theorem dX4_off_31 : decode cX4_off 31 = .ok (.aload_n 0, 1) := by decide +kernel
theorem dX4_off_32 : decode cX4_off 32 = .ok (.iload_n 1, 1) := by decide +kernel
theorem dX4_off_33 : decode cX4_off 33 = .ok (.iconst 4, 1) := by decide +kernel
theorem dX4_off_34 : decode cX4_off 34 = .ok (.invokevirtual 196, 3) := by decide +kernel
theorem dX4_off_37 : decode cX4_off 37 = .ok (.iconst 1, 1) := by decide +kernel
theorem dX4_off_38 : decode cX4_off 38 = .ok (.ireturn, 1) := by decide +kernel
theorem dX4_comesBack_0 : decode cX4_comesBack 0 = .ok (.iconst 0, 1) := by decide +kernel
theorem dX4_comesBack_1 : decode cX4_comesBack 1 = .ok (.istore_n 2, 1) := by decide +kernel
theorem dX4_comesBack_2 : decode cX4_comesBack 2 = .ok (.iload_n 2, 1) := by decide +kernel
theorem dX4_comesBack_3 : decode cX4_comesBack 3 = .ok (.aload_n 0, 1) := by decide +kernel
theorem dX4_comesBack_4 : decode cX4_comesBack 4 = .ok (.getfield 80, 3) := by decide +kernel
theorem dX4_comesBack_7 : decode cX4_comesBack 7 = .ok (.iload_n 1, 1) := by decide +kernel
theorem dX4_comesBack_8 : decode cX4_comesBack 8 = .ok (.iaload, 1) := by decide +kernel
theorem dX4_comesBack_9 : decode cX4_comesBack 9 = .ok (.if_icmp .ge 82, 3) := by decide +kernel
theorem dX4_comesBack_12 : decode cX4_comesBack 12 = .ok (.iconst 2, 1) := by decide +kernel
theorem dX4_comesBack_13 : decode cX4_comesBack 13 = .ok (.iload_n 1, 1) := by decide +kernel
theorem dX4_comesBack_14 : decode cX4_comesBack 14 = .ok (.imul, 1) := by decide +kernel
theorem dX4_comesBack_15 : decode cX4_comesBack 15 = .ok (.iload_n 2, 1) := by decide +kernel
theorem dX4_comesBack_16 : decode cX4_comesBack 16 = .ok (.iadd, 1) := by decide +kernel
theorem dX4_comesBack_17 : decode cX4_comesBack 17 = .ok (.istore_n 3, 1) := by decide +kernel
theorem dX4_comesBack_18 : decode cX4_comesBack 18 = .ok (.aload_n 0, 1) := by decide +kernel
theorem dX4_comesBack_19 : decode cX4_comesBack 19 = .ok (.getfield 99, 3) := by decide +kernel
theorem dX4_comesBack_22 : decode cX4_comesBack 22 = .ok (.iload_n 3, 1) := by decide +kernel
theorem dX4_comesBack_23 : decode cX4_comesBack 23 = .ok (.iaload, 1) := by decide +kernel
theorem dX4_comesBack_24 : decode cX4_comesBack 24 = .ok (.istore 4, 2) := by decide +kernel
theorem dX4_comesBack_26 : decode cX4_comesBack 26 = .ok (.aload_n 0, 1) := by decide +kernel
theorem dX4_comesBack_27 : decode cX4_comesBack 27 = .ok (.getfield 105, 3) := by decide +kernel
theorem dX4_comesBack_30 : decode cX4_comesBack 30 = .ok (.iload_n 3, 1) := by decide +kernel
theorem dX4_comesBack_31 : decode cX4_comesBack 31 = .ok (.iaload, 1) := by decide +kernel
theorem dX4_comesBack_32 : decode cX4_comesBack 32 = .ok (.aload_n 0, 1) := by decide +kernel
theorem dX4_comesBack_33 : decode cX4_comesBack 33 = .ok (.getfield 163, 3) := by decide +kernel
theorem dX4_comesBack_36 : decode cX4_comesBack 36 = .ok (.if_icmp .le 9, 3) := by decide +kernel
theorem dX4_comesBack_39 : decode cX4_comesBack 39 = .ok (.iinc 2 1, 3) := by decide +kernel
theorem dX4_comesBack_42 : decode cX4_comesBack 42 = .ok (.goto (-40), 3) := by decide +kernel
theorem dX4_comesBack_45 : decode cX4_comesBack 45 = .ok (.aload_n 0, 1) := by decide +kernel
theorem dX4_comesBack_46 : decode cX4_comesBack 46 = .ok (.getfield 108, 3) := by decide +kernel
theorem dX4_comesBack_49 : decode cX4_comesBack 49 = .ok (.iload_n 3, 1) := by decide +kernel
theorem dX4_comesBack_50 : decode cX4_comesBack 50 = .ok (.baload, 1) := by decide +kernel
theorem dX4_comesBack_51 : decode cX4_comesBack 51 = .ok (.ifCond .ne 25, 3) := by decide +kernel
theorem dX4_comesBack_54 : decode cX4_comesBack 54 = .ok (.aload_n 0, 1) := by decide +kernel
theorem dX4_comesBack_55 : decode cX4_comesBack 55 = .ok (.iload 4, 2) := by decide +kernel
theorem dX4_comesBack_57 : decode cX4_comesBack 57 = .ok (.invokevirtual 199, 3) := by decide +kernel
theorem dX4_comesBack_60 : decode cX4_comesBack 60 = .ok (.aload_n 0, 1) := by decide +kernel
theorem dX4_comesBack_61 : decode cX4_comesBack 61 = .ok (.iload_n 1, 1) := by decide +kernel
theorem dX4_comesBack_62 : decode cX4_comesBack 62 = .ok (.iconst 2, 1) := by decide +kernel
theorem dX4_comesBack_63 : decode cX4_comesBack 63 = .ok (.invokevirtual 196, 3) := by decide +kernel
theorem dX4_comesBack_66 : decode cX4_comesBack 66 = .ok (.aload_n 0, 1) := by decide +kernel
theorem dX4_comesBack_67 : decode cX4_comesBack 67 = .ok (.getfield 92, 3) := by decide +kernel
theorem dX4_comesBack_70 : decode cX4_comesBack 70 = .ok (.iload_n 1, 1) := by decide +kernel
theorem dX4_comesBack_71 : decode cX4_comesBack 71 = .ok (.iload 4, 2) := by decide +kernel
theorem dX4_comesBack_73 : decode cX4_comesBack 73 = .ok (.iastore, 1) := by decide +kernel
theorem dX4_comesBack_74 : decode cX4_comesBack 74 = .ok (.iconst 1, 1) := by decide +kernel
theorem dX4_comesBack_75 : decode cX4_comesBack 75 = .ok (.ireturn, 1) := by decide +kernel
theorem dX4_comesBack_76 : decode cX4_comesBack 76 = .ok (.aload_n 0, 1) := by decide +kernel
theorem dX4_comesBack_77 : decode cX4_comesBack 77 = .ok (.iload_n 1, 1) := by decide +kernel
theorem dX4_comesBack_78 : decode cX4_comesBack 78 = .ok (.iload_n 2, 1) := by decide +kernel
theorem dX4_comesBack_79 : decode cX4_comesBack 79 = .ok (.invokevirtual 190, 3) := by decide +kernel
theorem dX4_comesBack_82 : decode cX4_comesBack 82 = .ok (.aload_n 0, 1) := by decide +kernel
theorem dX4_comesBack_83 : decode cX4_comesBack 83 = .ok (.iload 4, 2) := by decide +kernel
theorem dX4_comesBack_85 : decode cX4_comesBack 85 = .ok (.invokevirtual 203, 3) := by decide +kernel
theorem dX4_comesBack_88 : decode cX4_comesBack 88 = .ok (.goto (-86), 3) := by decide +kernel
theorem dX4_comesBack_91 : decode cX4_comesBack 91 = .ok (.aload_n 0, 1) := by decide +kernel
theorem dX4_comesBack_92 : decode cX4_comesBack 92 = .ok (.getfield 80, 3) := by decide +kernel
theorem dX4_comesBack_95 : decode cX4_comesBack 95 = .ok (.iload_n 1, 1) := by decide +kernel
theorem dX4_comesBack_96 : decode cX4_comesBack 96 = .ok (.iaload, 1) := by decide +kernel
theorem dX4_comesBack_97 : decode cX4_comesBack 97 = .ok (.ifCond .le 5, 3) := by decide +kernel
theorem dX4_comesBack_100 : decode cX4_comesBack 100 = .ok (.iconst 0, 1) := by decide +kernel
theorem dX4_comesBack_101 : decode cX4_comesBack 101 = .ok (.ireturn, 1) := by decide +kernel
theorem dX4_comesBack_102 : decode cX4_comesBack 102 = .ok (.aload_n 0, 1) := by decide +kernel
theorem dX4_comesBack_103 : decode cX4_comesBack 103 = .ok (.getfield 95, 3) := by decide +kernel
theorem dX4_comesBack_106 : decode cX4_comesBack 106 = .ok (.iload_n 1, 1) := by decide +kernel
theorem dX4_comesBack_107 : decode cX4_comesBack 107 = .ok (.baload, 1) := by decide +kernel
theorem dX4_comesBack_108 : decode cX4_comesBack 108 = .ok (.ifCond .eq 56, 3) := by decide +kernel
theorem dX4_comesBack_111 : decode cX4_comesBack 111 = .ok (.aload_n 0, 1) := by decide +kernel
theorem dX4_comesBack_112 : decode cX4_comesBack 112 = .ok (.getfield 163, 3) := by decide +kernel
theorem dX4_comesBack_115 : decode cX4_comesBack 115 = .ok (.aload_n 0, 1) := by decide +kernel
theorem dX4_comesBack_116 : decode cX4_comesBack 116 = .ok (.getfield 74, 3) := by decide +kernel
theorem dX4_comesBack_119 : decode cX4_comesBack 119 = .ok (.iload_n 1, 1) := by decide +kernel
theorem dX4_comesBack_120 : decode cX4_comesBack 120 = .ok (.iaload, 1) := by decide +kernel
theorem dX4_comesBack_121 : decode cX4_comesBack 121 = .ok (.if_icmp .ge 43, 3) := by decide +kernel
theorem dX4_comesBack_124 : decode cX4_comesBack 124 = .ok (.bipush 100, 2) := by decide +kernel
theorem dX4_comesBack_126 : decode cX4_comesBack 126 = .ok (.aload_n 0, 1) := by decide +kernel
theorem dX4_comesBack_127 : decode cX4_comesBack 127 = .ok (.getfield 206, 3) := by decide +kernel
theorem dX4_comesBack_130 : decode cX4_comesBack 130 = .ok (.iconst 1, 1) := by decide +kernel
theorem dX4_comesBack_131 : decode cX4_comesBack 131 = .ok (.iadd, 1) := by decide +kernel
theorem dX4_comesBack_132 : decode cX4_comesBack 132 = .ok (.imul, 1) := by decide +kernel
theorem dX4_comesBack_133 : decode cX4_comesBack 133 = .ok (.aload_n 0, 1) := by decide +kernel
theorem dX4_comesBack_134 : decode cX4_comesBack 134 = .ok (.getfield 17, 3) := by decide +kernel
theorem dX4_comesBack_137 : decode cX4_comesBack 137 = .ok (.aload_n 0, 1) := by decide +kernel
theorem dX4_comesBack_138 : decode cX4_comesBack 138 = .ok (.getfield 121, 3) := by decide +kernel
theorem dX4_comesBack_141 : decode cX4_comesBack 141 = .ok (.imul, 1) := by decide +kernel
theorem dX4_comesBack_142 : decode cX4_comesBack 142 = .ok (.if_icmp .gt 22, 3) := by decide +kernel
theorem dX4_comesBack_145 : decode cX4_comesBack 145 = .ok (.aload_n 0, 1) := by decide +kernel
theorem dX4_comesBack_146 : decode cX4_comesBack 146 = .ok (.dup, 1) := by decide +kernel
theorem dX4_comesBack_147 : decode cX4_comesBack 147 = .ok (.getfield 206, 3) := by decide +kernel
theorem dX4_comesBack_150 : decode cX4_comesBack 150 = .ok (.iconst 1, 1) := by decide +kernel
theorem dX4_comesBack_151 : decode cX4_comesBack 151 = .ok (.iadd, 1) := by decide +kernel
theorem dX4_comesBack_152 : decode cX4_comesBack 152 = .ok (.putfield 206, 3) := by decide +kernel
theorem dX4_comesBack_155 : decode cX4_comesBack 155 = .ok (.aload_n 0, 1) := by decide +kernel
theorem dX4_comesBack_156 : decode cX4_comesBack 156 = .ok (.getfield 77, 3) := by decide +kernel
theorem dX4_comesBack_159 : decode cX4_comesBack 159 = .ok (.iload_n 1, 1) := by decide +kernel
theorem dX4_comesBack_160 : decode cX4_comesBack 160 = .ok (.iconst 0, 1) := by decide +kernel
theorem dX4_comesBack_161 : decode cX4_comesBack 161 = .ok (.iastore, 1) := by decide +kernel
theorem dX4_comesBack_162 : decode cX4_comesBack 162 = .ok (.iconst 0, 1) := by decide +kernel
theorem dX4_comesBack_163 : decode cX4_comesBack 163 = .ok (.ireturn, 1) := by decide +kernel
theorem dX4_comesBack_164 : decode cX4_comesBack 164 = .ok (.aload_n 0, 1) := by decide +kernel
theorem dX4_comesBack_165 : decode cX4_comesBack 165 = .ok (.iload_n 1, 1) := by decide +kernel
theorem dX4_comesBack_166 : decode cX4_comesBack 166 = .ok (.iconst 3, 1) := by decide +kernel
theorem dX4_comesBack_167 : decode cX4_comesBack 167 = .ok (.invokevirtual 196, 3) := by decide +kernel
theorem dX4_comesBack_170 : decode cX4_comesBack 170 = .ok (.iconst 1, 1) := by decide +kernel
theorem dX4_comesBack_171 : decode cX4_comesBack 171 = .ok (.ireturn, 1) := by decide +kernel
theorem dX4_isDue_0 : decode cX4_isDue 0 = .ok (.aload_n 0, 1) := by decide +kernel
theorem dX4_isDue_1 : decode cX4_isDue 1 = .ok (.getfield 74, 3) := by decide +kernel
theorem dX4_isDue_4 : decode cX4_isDue 4 = .ok (.iload_n 1, 1) := by decide +kernel
theorem dX4_isDue_5 : decode cX4_isDue 5 = .ok (.iaload, 1) := by decide +kernel
theorem dX4_isDue_6 : decode cX4_isDue 6 = .ok (.aload_n 0, 1) := by decide +kernel
theorem dX4_isDue_7 : decode cX4_isDue 7 = .ok (.getfield 163, 3) := by decide +kernel
theorem dX4_isDue_10 : decode cX4_isDue 10 = .ok (.if_icmp .ne 13, 3) := by decide +kernel
theorem dX4_isDue_13 : decode cX4_isDue 13 = .ok (.aload_n 0, 1) := by decide +kernel
theorem dX4_isDue_14 : decode cX4_isDue 14 = .ok (.getfield 77, 3) := by decide +kernel
theorem dX4_isDue_17 : decode cX4_isDue 17 = .ok (.iload_n 1, 1) := by decide +kernel
theorem dX4_isDue_18 : decode cX4_isDue 18 = .ok (.iaload, 1) := by decide +kernel
theorem dX4_isDue_19 : decode cX4_isDue 19 = .ok (.iconst 1, 1) := by decide +kernel
theorem dX4_isDue_20 : decode cX4_isDue 20 = .ok (.if_icmp .le 5, 3) := by decide +kernel
theorem dX4_isDue_23 : decode cX4_isDue 23 = .ok (.iconst 0, 1) := by decide +kernel
theorem dX4_isDue_24 : decode cX4_isDue 24 = .ok (.ireturn, 1) := by decide +kernel
theorem dX4_isDue_25 : decode cX4_isDue 25 = .ok (.aload_n 0, 1) := by decide +kernel
theorem dX4_isDue_26 : decode cX4_isDue 26 = .ok (.getfield 77, 3) := by decide +kernel
theorem dX4_isDue_29 : decode cX4_isDue 29 = .ok (.iload_n 1, 1) := by decide +kernel
theorem dX4_isDue_30 : decode cX4_isDue 30 = .ok (.iaload, 1) := by decide +kernel
theorem dX4_isDue_31 : decode cX4_isDue 31 = .ok (.iconst 1, 1) := by decide +kernel
theorem dX4_isDue_32 : decode cX4_isDue 32 = .ok (.if_icmp .ne 7, 3) := by decide +kernel
theorem dX4_isDue_35 : decode cX4_isDue 35 = .ok (.iconst 1, 1) := by decide +kernel
theorem dX4_isDue_36 : decode cX4_isDue 36 = .ok (.goto 4, 3) := by decide +kernel
theorem dX4_isDue_39 : decode cX4_isDue 39 = .ok (.iconst 0, 1) := by decide +kernel
theorem dX4_isDue_40 : decode cX4_isDue 40 = .ok (.istore_n 2, 1) := by decide +kernel
theorem dX4_isDue_41 : decode cX4_isDue 41 = .ok (.aload_n 0, 1) := by decide +kernel
theorem dX4_isDue_42 : decode cX4_isDue 42 = .ok (.getfield 80, 3) := by decide +kernel
theorem dX4_isDue_45 : decode cX4_isDue 45 = .ok (.iload_n 1, 1) := by decide +kernel
theorem dX4_isDue_46 : decode cX4_isDue 46 = .ok (.iaload, 1) := by decide +kernel
theorem dX4_isDue_47 : decode cX4_isDue 47 = .ok (.ifCond .le 26, 3) := by decide +kernel
theorem dX4_isDue_50 : decode cX4_isDue 50 = .ok (.aload_n 0, 1) := by decide +kernel
theorem dX4_isDue_51 : decode cX4_isDue 51 = .ok (.getfield 99, 3) := by decide +kernel
theorem dX4_isDue_54 : decode cX4_isDue 54 = .ok (.iconst 2, 1) := by decide +kernel
theorem dX4_isDue_55 : decode cX4_isDue 55 = .ok (.iload_n 1, 1) := by decide +kernel
theorem dX4_isDue_56 : decode cX4_isDue 56 = .ok (.imul, 1) := by decide +kernel
theorem dX4_isDue_57 : decode cX4_isDue 57 = .ok (.iaload, 1) := by decide +kernel
theorem dX4_isDue_58 : decode cX4_isDue 58 = .ok (.istore_n 3, 1) := by decide +kernel
theorem dX4_isDue_59 : decode cX4_isDue 59 = .ok (.aload_n 0, 1) := by decide +kernel
theorem dX4_isDue_60 : decode cX4_isDue 60 = .ok (.iload_n 1, 1) := by decide +kernel
theorem dX4_isDue_61 : decode cX4_isDue 61 = .ok (.iconst 0, 1) := by decide +kernel
theorem dX4_isDue_62 : decode cX4_isDue 62 = .ok (.invokevirtual 190, 3) := by decide +kernel
theorem dX4_isDue_65 : decode cX4_isDue 65 = .ok (.aload_n 0, 1) := by decide +kernel
theorem dX4_isDue_66 : decode cX4_isDue 66 = .ok (.iload_n 3, 1) := by decide +kernel
theorem dX4_isDue_67 : decode cX4_isDue 67 = .ok (.invokevirtual 203, 3) := by decide +kernel
theorem dX4_isDue_70 : decode cX4_isDue 70 = .ok (.goto (-29), 3) := by decide +kernel
theorem dX4_isDue_73 : decode cX4_isDue 73 = .ok (.aload_n 0, 1) := by decide +kernel
theorem dX4_isDue_74 : decode cX4_isDue 74 = .ok (.iload_n 1, 1) := by decide +kernel
theorem dX4_isDue_75 : decode cX4_isDue 75 = .ok (.iload_n 2, 1) := by decide +kernel
theorem dX4_isDue_76 : decode cX4_isDue 76 = .ok (.ifCond .eq 7, 3) := by decide +kernel
theorem dX4_isDue_79 : decode cX4_isDue 79 = .ok (.iconst 3, 1) := by decide +kernel
theorem dX4_isDue_80 : decode cX4_isDue 80 = .ok (.goto 4, 3) := by decide +kernel
theorem dX4_isDue_83 : decode cX4_isDue 83 = .ok (.iconst 4, 1) := by decide +kernel
theorem dX4_isDue_84 : decode cX4_isDue 84 = .ok (.invokevirtual 196, 3) := by decide +kernel
theorem dX4_isDue_87 : decode cX4_isDue 87 = .ok (.iconst 1, 1) := by decide +kernel
theorem dX4_isDue_88 : decode cX4_isDue 88 = .ok (.ireturn, 1) := by decide +kernel
theorem dX4_hedges_0 : decode cX4_hedges 0 = .ok (.aload_n 0, 1) := by decide +kernel
theorem dX4_hedges_1 : decode cX4_hedges 1 = .ok (.getfield 77, 3) := by decide +kernel
theorem dX4_hedges_4 : decode cX4_hedges 4 = .ok (.iload_n 1, 1) := by decide +kernel
theorem dX4_hedges_5 : decode cX4_hedges 5 = .ok (.iaload, 1) := by decide +kernel
theorem dX4_hedges_6 : decode cX4_hedges 6 = .ok (.iconst 1, 1) := by decide +kernel
theorem dX4_hedges_7 : decode cX4_hedges 7 = .ok (.if_icmp .ne 42, 3) := by decide +kernel
theorem dX4_hedges_10 : decode cX4_hedges 10 = .ok (.aload_n 0, 1) := by decide +kernel
theorem dX4_hedges_11 : decode cX4_hedges 11 = .ok (.getfield 95, 3) := by decide +kernel
theorem dX4_hedges_14 : decode cX4_hedges 14 = .ok (.iload_n 1, 1) := by decide +kernel
theorem dX4_hedges_15 : decode cX4_hedges 15 = .ok (.baload, 1) := by decide +kernel
theorem dX4_hedges_16 : decode cX4_hedges 16 = .ok (.ifCond .eq 33, 3) := by decide +kernel
theorem dX4_hedges_19 : decode cX4_hedges 19 = .ok (.aload_n 0, 1) := by decide +kernel
theorem dX4_hedges_20 : decode cX4_hedges 20 = .ok (.getfield 80, 3) := by decide +kernel
theorem dX4_hedges_23 : decode cX4_hedges 23 = .ok (.iload_n 1, 1) := by decide +kernel
theorem dX4_hedges_24 : decode cX4_hedges 24 = .ok (.iaload, 1) := by decide +kernel
theorem dX4_hedges_25 : decode cX4_hedges 25 = .ok (.iconst 1, 1) := by decide +kernel
theorem dX4_hedges_26 : decode cX4_hedges 26 = .ok (.if_icmp .ne 23, 3) := by decide +kernel
theorem dX4_hedges_29 : decode cX4_hedges 29 = .ok (.aload_n 0, 1) := by decide +kernel
theorem dX4_hedges_30 : decode cX4_hedges 30 = .ok (.getfield 102, 3) := by decide +kernel
theorem dX4_hedges_33 : decode cX4_hedges 33 = .ok (.iconst 2, 1) := by decide +kernel
theorem dX4_hedges_34 : decode cX4_hedges 34 = .ok (.iload_n 1, 1) := by decide +kernel
theorem dX4_hedges_35 : decode cX4_hedges 35 = .ok (.imul, 1) := by decide +kernel
theorem dX4_hedges_36 : decode cX4_hedges 36 = .ok (.iaload, 1) := by decide +kernel
theorem dX4_hedges_37 : decode cX4_hedges 37 = .ok (.aload_n 0, 1) := by decide +kernel
theorem dX4_hedges_38 : decode cX4_hedges 38 = .ok (.getfield 139, 3) := by decide +kernel
theorem dX4_hedges_41 : decode cX4_hedges 41 = .ok (.iadd, 1) := by decide +kernel
theorem dX4_hedges_42 : decode cX4_hedges 42 = .ok (.aload_n 0, 1) := by decide +kernel
theorem dX4_hedges_43 : decode cX4_hedges 43 = .ok (.getfield 163, 3) := by decide +kernel
theorem dX4_hedges_46 : decode cX4_hedges 46 = .ok (.if_icmp .eq 4, 3) := by decide +kernel
theorem dX4_hedges_49 : decode cX4_hedges 49 = .ok (.return_, 1) := by decide +kernel
theorem dX4_hedges_50 : decode cX4_hedges 50 = .ok (.aload_n 0, 1) := by decide +kernel
theorem dX4_hedges_51 : decode cX4_hedges 51 = .ok (.aload_n 0, 1) := by decide +kernel
theorem dX4_hedges_52 : decode cX4_hedges 52 = .ok (.getfield 83, 3) := by decide +kernel
theorem dX4_hedges_55 : decode cX4_hedges 55 = .ok (.iload_n 1, 1) := by decide +kernel
theorem dX4_hedges_56 : decode cX4_hedges 56 = .ok (.iaload, 1) := by decide +kernel
theorem dX4_hedges_57 : decode cX4_hedges 57 = .ok (.invokevirtual 167, 3) := by decide +kernel
theorem dX4_hedges_60 : decode cX4_hedges 60 = .ok (.istore_n 2, 1) := by decide +kernel
theorem dX4_hedges_61 : decode cX4_hedges 61 = .ok (.iload_n 2, 1) := by decide +kernel
theorem dX4_hedges_62 : decode cX4_hedges 62 = .ok (.ifCond .ne 4, 3) := by decide +kernel
theorem dX4_hedges_65 : decode cX4_hedges 65 = .ok (.return_, 1) := by decide +kernel
theorem dX4_hedges_66 : decode cX4_hedges 66 = .ok (.aload_n 0, 1) := by decide +kernel
theorem dX4_hedges_67 : decode cX4_hedges 67 = .ok (.iload_n 1, 1) := by decide +kernel
theorem dX4_hedges_68 : decode cX4_hedges 68 = .ok (.aload_n 0, 1) := by decide +kernel
theorem dX4_hedges_69 : decode cX4_hedges 69 = .ok (.iload_n 2, 1) := by decide +kernel
theorem dX4_hedges_70 : decode cX4_hedges 70 = .ok (.invokevirtual 147, 3) := by decide +kernel
theorem dX4_hedges_73 : decode cX4_hedges 73 = .ok (.invokevirtual 174, 3) := by decide +kernel
theorem dX4_hedges_76 : decode cX4_hedges 76 = .ok (.aload_n 0, 1) := by decide +kernel
theorem dX4_hedges_77 : decode cX4_hedges 77 = .ok (.dup, 1) := by decide +kernel
theorem dX4_hedges_78 : decode cX4_hedges 78 = .ok (.getfield 209, 3) := by decide +kernel
theorem dX4_hedges_81 : decode cX4_hedges 81 = .ok (.iconst 1, 1) := by decide +kernel
theorem dX4_hedges_82 : decode cX4_hedges 82 = .ok (.iadd, 1) := by decide +kernel
theorem dX4_hedges_83 : decode cX4_hedges 83 = .ok (.putfield 209, 3) := by decide +kernel
theorem dX4_hedges_86 : decode cX4_hedges 86 = .ok (.return_, 1) := by decide +kernel
theorem dX4_isAhead_0 : decode cX4_isAhead 0 = .ok (.aload_n 0, 1) := by decide +kernel
theorem dX4_isAhead_1 : decode cX4_isAhead 1 = .ok (.getfield 71, 3) := by decide +kernel
theorem dX4_isAhead_4 : decode cX4_isAhead 4 = .ok (.iload_n 1, 1) := by decide +kernel
theorem dX4_isAhead_5 : decode cX4_isAhead 5 = .ok (.iaload, 1) := by decide +kernel
theorem dX4_isAhead_6 : decode cX4_isAhead 6 = .ok (.aload_n 0, 1) := by decide +kernel
theorem dX4_isAhead_7 : decode cX4_isAhead 7 = .ok (.getfield 71, 3) := by decide +kernel
theorem dX4_isAhead_10 : decode cX4_isAhead 10 = .ok (.iload_n 2, 1) := by decide +kernel
theorem dX4_isAhead_11 : decode cX4_isAhead 11 = .ok (.iaload, 1) := by decide +kernel
theorem dX4_isAhead_12 : decode cX4_isAhead 12 = .ok (.if_icmp .eq 24, 3) := by decide +kernel
theorem dX4_isAhead_15 : decode cX4_isAhead 15 = .ok (.aload_n 0, 1) := by decide +kernel
theorem dX4_isAhead_16 : decode cX4_isAhead 16 = .ok (.getfield 71, 3) := by decide +kernel
theorem dX4_isAhead_19 : decode cX4_isAhead 19 = .ok (.iload_n 1, 1) := by decide +kernel
theorem dX4_isAhead_20 : decode cX4_isAhead 20 = .ok (.iaload, 1) := by decide +kernel
theorem dX4_isAhead_21 : decode cX4_isAhead 21 = .ok (.aload_n 0, 1) := by decide +kernel
theorem dX4_isAhead_22 : decode cX4_isAhead 22 = .ok (.getfield 71, 3) := by decide +kernel
theorem dX4_isAhead_25 : decode cX4_isAhead 25 = .ok (.iload_n 2, 1) := by decide +kernel
theorem dX4_isAhead_26 : decode cX4_isAhead 26 = .ok (.iaload, 1) := by decide +kernel
theorem dX4_isAhead_27 : decode cX4_isAhead 27 = .ok (.if_icmp .le 7, 3) := by decide +kernel
theorem dX4_isAhead_30 : decode cX4_isAhead 30 = .ok (.iconst 1, 1) := by decide +kernel
theorem dX4_isAhead_31 : decode cX4_isAhead 31 = .ok (.goto 4, 3) := by decide +kernel
theorem dX4_isAhead_34 : decode cX4_isAhead 34 = .ok (.iconst 0, 1) := by decide +kernel
theorem dX4_isAhead_35 : decode cX4_isAhead 35 = .ok (.ireturn, 1) := by decide +kernel
theorem dX4_isAhead_36 : decode cX4_isAhead 36 = .ok (.aload_n 0, 1) := by decide +kernel
theorem dX4_isAhead_37 : decode cX4_isAhead 37 = .ok (.getfield 74, 3) := by decide +kernel
theorem dX4_isAhead_40 : decode cX4_isAhead 40 = .ok (.iload_n 1, 1) := by decide +kernel
theorem dX4_isAhead_41 : decode cX4_isAhead 41 = .ok (.iaload, 1) := by decide +kernel
theorem dX4_isAhead_42 : decode cX4_isAhead 42 = .ok (.aload_n 0, 1) := by decide +kernel
theorem dX4_isAhead_43 : decode cX4_isAhead 43 = .ok (.getfield 74, 3) := by decide +kernel
theorem dX4_isAhead_46 : decode cX4_isAhead 46 = .ok (.iload_n 2, 1) := by decide +kernel
theorem dX4_isAhead_47 : decode cX4_isAhead 47 = .ok (.iaload, 1) := by decide +kernel
theorem dX4_isAhead_48 : decode cX4_isAhead 48 = .ok (.if_icmp .eq 26, 3) := by decide +kernel
theorem dX4_isAhead_51 : decode cX4_isAhead 51 = .ok (.aload_n 0, 1) := by decide +kernel
theorem dX4_isAhead_52 : decode cX4_isAhead 52 = .ok (.getfield 74, 3) := by decide +kernel
theorem dX4_isAhead_55 : decode cX4_isAhead 55 = .ok (.iload_n 1, 1) := by decide +kernel
theorem dX4_isAhead_56 : decode cX4_isAhead 56 = .ok (.iaload, 1) := by decide +kernel
theorem dX4_isAhead_57 : decode cX4_isAhead 57 = .ok (.aload_n 0, 1) := by decide +kernel
theorem dX4_isAhead_58 : decode cX4_isAhead 58 = .ok (.getfield 74, 3) := by decide +kernel
theorem dX4_isAhead_61 : decode cX4_isAhead 61 = .ok (.iload_n 2, 1) := by decide +kernel
theorem dX4_isAhead_62 : decode cX4_isAhead 62 = .ok (.iaload, 1) := by decide +kernel
theorem dX4_isAhead_63 : decode cX4_isAhead 63 = .ok (.if_icmp .ge 7, 3) := by decide +kernel
theorem dX4_isAhead_66 : decode cX4_isAhead 66 = .ok (.iconst 1, 1) := by decide +kernel
theorem dX4_isAhead_67 : decode cX4_isAhead 67 = .ok (.goto 17, 3) := by decide +kernel
theorem dX4_isAhead_70 : decode cX4_isAhead 70 = .ok (.iconst 0, 1) := by decide +kernel
theorem dX4_isAhead_71 : decode cX4_isAhead 71 = .ok (.goto 13, 3) := by decide +kernel
theorem dX4_isAhead_74 : decode cX4_isAhead 74 = .ok (.iload_n 1, 1) := by decide +kernel
theorem dX4_isAhead_75 : decode cX4_isAhead 75 = .ok (.iload_n 2, 1) := by decide +kernel
theorem dX4_isAhead_76 : decode cX4_isAhead 76 = .ok (.if_icmp .ge 7, 3) := by decide +kernel
theorem dX4_isAhead_79 : decode cX4_isAhead 79 = .ok (.iconst 1, 1) := by decide +kernel
theorem dX4_isAhead_80 : decode cX4_isAhead 80 = .ok (.goto 4, 3) := by decide +kernel
theorem dX4_isAhead_83 : decode cX4_isAhead 83 = .ok (.iconst 0, 1) := by decide +kernel
theorem dX4_isAhead_84 : decode cX4_isAhead 84 = .ok (.ireturn, 1) := by decide +kernel
theorem dX4_line_0 : decode cX4_line 0 = .ok (.aload_n 0, 1) := by decide +kernel
theorem dX4_line_1 : decode cX4_line 1 = .ok (.iconst 0, 1) := by decide +kernel
theorem dX4_line_2 : decode cX4_line 2 = .ok (.putfield 212, 3) := by decide +kernel
theorem dX4_line_5 : decode cX4_line 5 = .ok (.iconst 0, 1) := by decide +kernel
theorem dX4_line_6 : decode cX4_line 6 = .ok (.istore_n 1, 1) := by decide +kernel
theorem dX4_line_7 : decode cX4_line 7 = .ok (.iload_n 1, 1) := by decide +kernel
theorem dX4_line_8 : decode cX4_line 8 = .ok (.aload_n 0, 1) := by decide +kernel
theorem dX4_line_9 : decode cX4_line 9 = .ok (.getfield 121, 3) := by decide +kernel
theorem dX4_line_12 : decode cX4_line 12 = .ok (.if_icmp .ge 83, 3) := by decide +kernel
theorem dX4_line_15 : decode cX4_line 15 = .ok (.aload_n 0, 1) := by decide +kernel
theorem dX4_line_16 : decode cX4_line 16 = .ok (.getfield 77, 3) := by decide +kernel
theorem dX4_line_19 : decode cX4_line 19 = .ok (.iload_n 1, 1) := by decide +kernel
theorem dX4_line_20 : decode cX4_line 20 = .ok (.iaload, 1) := by decide +kernel
theorem dX4_line_21 : decode cX4_line 21 = .ok (.ifCond .eq 6, 3) := by decide +kernel
theorem dX4_line_24 : decode cX4_line 24 = .ok (.goto 65, 3) := by decide +kernel
theorem dX4_line_27 : decode cX4_line 27 = .ok (.aload_n 0, 1) := by decide +kernel
theorem dX4_line_28 : decode cX4_line 28 = .ok (.getfield 212, 3) := by decide +kernel
theorem dX4_line_31 : decode cX4_line 31 = .ok (.istore_n 2, 1) := by decide +kernel
theorem dX4_line_32 : decode cX4_line 32 = .ok (.iload_n 2, 1) := by decide +kernel
theorem dX4_line_33 : decode cX4_line 33 = .ok (.ifCond .le 39, 3) := by decide +kernel
theorem dX4_line_36 : decode cX4_line 36 = .ok (.aload_n 0, 1) := by decide +kernel
theorem dX4_line_37 : decode cX4_line 37 = .ok (.iload_n 1, 1) := by decide +kernel
theorem dX4_line_38 : decode cX4_line 38 = .ok (.aload_n 0, 1) := by decide +kernel
theorem dX4_line_39 : decode cX4_line 39 = .ok (.getfield 111, 3) := by decide +kernel
theorem dX4_line_42 : decode cX4_line 42 = .ok (.iload_n 2, 1) := by decide +kernel
theorem dX4_line_43 : decode cX4_line 43 = .ok (.iconst 1, 1) := by decide +kernel
theorem dX4_line_44 : decode cX4_line 44 = .ok (.isub, 1) := by decide +kernel
theorem dX4_line_45 : decode cX4_line 45 = .ok (.iaload, 1) := by decide +kernel
theorem dX4_line_46 : decode cX4_line 46 = .ok (.invokevirtual 215, 3) := by decide +kernel
theorem dX4_line_49 : decode cX4_line 49 = .ok (.ifCond .eq 23, 3) := by decide +kernel
theorem dX4_line_52 : decode cX4_line 52 = .ok (.aload_n 0, 1) := by decide +kernel
theorem dX4_line_53 : decode cX4_line 53 = .ok (.getfield 111, 3) := by decide +kernel
theorem dX4_line_56 : decode cX4_line 56 = .ok (.iload_n 2, 1) := by decide +kernel
theorem dX4_line_57 : decode cX4_line 57 = .ok (.aload_n 0, 1) := by decide +kernel
theorem dX4_line_58 : decode cX4_line 58 = .ok (.getfield 111, 3) := by decide +kernel
theorem dX4_line_61 : decode cX4_line 61 = .ok (.iload_n 2, 1) := by decide +kernel
theorem dX4_line_62 : decode cX4_line 62 = .ok (.iconst 1, 1) := by decide +kernel
theorem dX4_line_63 : decode cX4_line 63 = .ok (.isub, 1) := by decide +kernel
theorem dX4_line_64 : decode cX4_line 64 = .ok (.iaload, 1) := by decide +kernel
theorem dX4_line_65 : decode cX4_line 65 = .ok (.iastore, 1) := by decide +kernel
theorem dX4_line_66 : decode cX4_line 66 = .ok (.iinc 2 (-1), 3) := by decide +kernel
theorem dX4_line_69 : decode cX4_line 69 = .ok (.goto (-37), 3) := by decide +kernel
theorem dX4_line_72 : decode cX4_line 72 = .ok (.aload_n 0, 1) := by decide +kernel
theorem dX4_line_73 : decode cX4_line 73 = .ok (.getfield 111, 3) := by decide +kernel
theorem dX4_line_76 : decode cX4_line 76 = .ok (.iload_n 2, 1) := by decide +kernel
theorem dX4_line_77 : decode cX4_line 77 = .ok (.iload_n 1, 1) := by decide +kernel
theorem dX4_line_78 : decode cX4_line 78 = .ok (.iastore, 1) := by decide +kernel
theorem dX4_line_79 : decode cX4_line 79 = .ok (.aload_n 0, 1) := by decide +kernel
theorem dX4_line_80 : decode cX4_line 80 = .ok (.dup, 1) := by decide +kernel
theorem dX4_line_81 : decode cX4_line 81 = .ok (.getfield 212, 3) := by decide +kernel
theorem dX4_line_84 : decode cX4_line 84 = .ok (.iconst 1, 1) := by decide +kernel
theorem dX4_line_85 : decode cX4_line 85 = .ok (.iadd, 1) := by decide +kernel
theorem dX4_line_86 : decode cX4_line 86 = .ok (.putfield 212, 3) := by decide +kernel
theorem dX4_line_89 : decode cX4_line 89 = .ok (.iinc 1 1, 3) := by decide +kernel
theorem dX4_line_92 : decode cX4_line 92 = .ok (.goto (-85), 3) := by decide +kernel
theorem dX4_line_95 : decode cX4_line 95 = .ok (.return_, 1) := by decide +kernel
theorem dX4_goesOn_0 : decode cX4_goesOn 0 = .ok (.aload_n 0, 1) := by decide +kernel
theorem dX4_goesOn_1 : decode cX4_goesOn 1 = .ok (.dup, 1) := by decide +kernel
theorem dX4_goesOn_2 : decode cX4_goesOn 2 = .ok (.getfield 163, 3) := by decide +kernel
theorem dX4_goesOn_5 : decode cX4_goesOn 5 = .ok (.iconst 1, 1) := by decide +kernel
theorem dX4_goesOn_6 : decode cX4_goesOn 6 = .ok (.iadd, 1) := by decide +kernel
theorem dX4_goesOn_7 : decode cX4_goesOn 7 = .ok (.putfield 163, 3) := by decide +kernel
theorem dX4_goesOn_10 : decode cX4_goesOn 10 = .ok (.iconst 0, 1) := by decide +kernel
theorem dX4_goesOn_11 : decode cX4_goesOn 11 = .ok (.istore_n 1, 1) := by decide +kernel
theorem dX4_goesOn_12 : decode cX4_goesOn 12 = .ok (.iconst 0, 1) := by decide +kernel
theorem dX4_goesOn_13 : decode cX4_goesOn 13 = .ok (.istore_n 2, 1) := by decide +kernel
theorem dX4_goesOn_14 : decode cX4_goesOn 14 = .ok (.iload_n 2, 1) := by decide +kernel
theorem dX4_goesOn_15 : decode cX4_goesOn 15 = .ok (.aload_n 0, 1) := by decide +kernel
theorem dX4_goesOn_16 : decode cX4_goesOn 16 = .ok (.getfield 121, 3) := by decide +kernel
theorem dX4_goesOn_19 : decode cX4_goesOn 19 = .ok (.if_icmp .ge 35, 3) := by decide +kernel
theorem dX4_goesOn_22 : decode cX4_goesOn 22 = .ok (.iload_n 1, 1) := by decide +kernel
theorem dX4_goesOn_23 : decode cX4_goesOn 23 = .ok (.aload_n 0, 1) := by decide +kernel
theorem dX4_goesOn_24 : decode cX4_goesOn 24 = .ok (.getfield 77, 3) := by decide +kernel
theorem dX4_goesOn_27 : decode cX4_goesOn 27 = .ok (.iload_n 2, 1) := by decide +kernel
theorem dX4_goesOn_28 : decode cX4_goesOn 28 = .ok (.iaload, 1) := by decide +kernel
theorem dX4_goesOn_29 : decode cX4_goesOn 29 = .ok (.iconst 1, 1) := by decide +kernel
theorem dX4_goesOn_30 : decode cX4_goesOn 30 = .ok (.if_icmp .ne 15, 3) := by decide +kernel
theorem dX4_goesOn_33 : decode cX4_goesOn 33 = .ok (.aload_n 0, 1) := by decide +kernel
theorem dX4_goesOn_34 : decode cX4_goesOn 34 = .ok (.iload_n 2, 1) := by decide +kernel
theorem dX4_goesOn_35 : decode cX4_goesOn 35 = .ok (.invokevirtual 218, 3) := by decide +kernel
theorem dX4_goesOn_38 : decode cX4_goesOn 38 = .ok (.ifCond .eq 7, 3) := by decide +kernel
theorem dX4_goesOn_41 : decode cX4_goesOn 41 = .ok (.iconst 1, 1) := by decide +kernel
theorem dX4_goesOn_42 : decode cX4_goesOn 42 = .ok (.goto 4, 3) := by decide +kernel
theorem dX4_goesOn_45 : decode cX4_goesOn 45 = .ok (.iconst 0, 1) := by decide +kernel
theorem dX4_goesOn_46 : decode cX4_goesOn 46 = .ok (.iadd, 1) := by decide +kernel
theorem dX4_goesOn_47 : decode cX4_goesOn 47 = .ok (.istore_n 1, 1) := by decide +kernel
theorem dX4_goesOn_48 : decode cX4_goesOn 48 = .ok (.iinc 2 1, 3) := by decide +kernel
theorem dX4_goesOn_51 : decode cX4_goesOn 51 = .ok (.goto (-37), 3) := by decide +kernel
theorem dX4_goesOn_54 : decode cX4_goesOn 54 = .ok (.iconst 0, 1) := by decide +kernel
theorem dX4_goesOn_55 : decode cX4_goesOn 55 = .ok (.istore_n 2, 1) := by decide +kernel
theorem dX4_goesOn_56 : decode cX4_goesOn 56 = .ok (.iload_n 2, 1) := by decide +kernel
theorem dX4_goesOn_57 : decode cX4_goesOn 57 = .ok (.aload_n 0, 1) := by decide +kernel
theorem dX4_goesOn_58 : decode cX4_goesOn 58 = .ok (.getfield 121, 3) := by decide +kernel
theorem dX4_goesOn_61 : decode cX4_goesOn 61 = .ok (.if_icmp .ge 25, 3) := by decide +kernel
theorem dX4_goesOn_64 : decode cX4_goesOn 64 = .ok (.iload_n 1, 1) := by decide +kernel
theorem dX4_goesOn_65 : decode cX4_goesOn 65 = .ok (.aload_n 0, 1) := by decide +kernel
theorem dX4_goesOn_66 : decode cX4_goesOn 66 = .ok (.iload_n 2, 1) := by decide +kernel
theorem dX4_goesOn_67 : decode cX4_goesOn 67 = .ok (.invokevirtual 221, 3) := by decide +kernel
theorem dX4_goesOn_70 : decode cX4_goesOn 70 = .ok (.ifCond .eq 7, 3) := by decide +kernel
theorem dX4_goesOn_73 : decode cX4_goesOn 73 = .ok (.iconst 1, 1) := by decide +kernel
theorem dX4_goesOn_74 : decode cX4_goesOn 74 = .ok (.goto 4, 3) := by decide +kernel
theorem dX4_goesOn_77 : decode cX4_goesOn 77 = .ok (.iconst 0, 1) := by decide +kernel
theorem dX4_goesOn_78 : decode cX4_goesOn 78 = .ok (.iadd, 1) := by decide +kernel
theorem dX4_goesOn_79 : decode cX4_goesOn 79 = .ok (.istore_n 1, 1) := by decide +kernel
theorem dX4_goesOn_80 : decode cX4_goesOn 80 = .ok (.iinc 2 1, 3) := by decide +kernel
theorem dX4_goesOn_83 : decode cX4_goesOn 83 = .ok (.goto (-27), 3) := by decide +kernel
theorem dX4_goesOn_86 : decode cX4_goesOn 86 = .ok (.iconst 0, 1) := by decide +kernel
theorem dX4_goesOn_87 : decode cX4_goesOn 87 = .ok (.istore_n 2, 1) := by decide +kernel
theorem dX4_goesOn_88 : decode cX4_goesOn 88 = .ok (.iload_n 2, 1) := by decide +kernel
theorem dX4_goesOn_89 : decode cX4_goesOn 89 = .ok (.aload_n 0, 1) := by decide +kernel
theorem dX4_goesOn_90 : decode cX4_goesOn 90 = .ok (.getfield 114, 3) := by decide +kernel
theorem dX4_goesOn_93 : decode cX4_goesOn 93 = .ok (.if_icmp .ge 39, 3) := by decide +kernel
theorem dX4_goesOn_96 : decode cX4_goesOn 96 = .ok (.aload_n 0, 1) := by decide +kernel
theorem dX4_goesOn_97 : decode cX4_goesOn 97 = .ok (.getfield 38, 3) := by decide +kernel
theorem dX4_goesOn_100 : decode cX4_goesOn 100 = .ok (.iload_n 2, 1) := by decide +kernel
theorem dX4_goesOn_101 : decode cX4_goesOn 101 = .ok (.iaload, 1) := by decide +kernel
theorem dX4_goesOn_102 : decode cX4_goesOn 102 = .ok (.iconst 1, 1) := by decide +kernel
theorem dX4_goesOn_103 : decode cX4_goesOn 103 = .ok (.if_icmp .ne 23, 3) := by decide +kernel
theorem dX4_goesOn_106 : decode cX4_goesOn 106 = .ok (.aload_n 0, 1) := by decide +kernel
theorem dX4_goesOn_107 : decode cX4_goesOn 107 = .ok (.getfield 56, 3) := by decide +kernel
theorem dX4_goesOn_110 : decode cX4_goesOn 110 = .ok (.iload_n 2, 1) := by decide +kernel
theorem dX4_goesOn_111 : decode cX4_goesOn 111 = .ok (.iaload, 1) := by decide +kernel
theorem dX4_goesOn_112 : decode cX4_goesOn 112 = .ok (.aload_n 0, 1) := by decide +kernel
theorem dX4_goesOn_113 : decode cX4_goesOn 113 = .ok (.getfield 163, 3) := by decide +kernel
theorem dX4_goesOn_116 : decode cX4_goesOn 116 = .ok (.if_icmp .gt 10, 3) := by decide +kernel
theorem dX4_goesOn_119 : decode cX4_goesOn 119 = .ok (.aload_n 0, 1) := by decide +kernel
theorem dX4_goesOn_120 : decode cX4_goesOn 120 = .ok (.getfield 38, 3) := by decide +kernel
theorem dX4_goesOn_123 : decode cX4_goesOn 123 = .ok (.iload_n 2, 1) := by decide +kernel
theorem dX4_goesOn_124 : decode cX4_goesOn 124 = .ok (.iconst 2, 1) := by decide +kernel
theorem dX4_goesOn_125 : decode cX4_goesOn 125 = .ok (.iastore, 1) := by decide +kernel
theorem dX4_goesOn_126 : decode cX4_goesOn 126 = .ok (.iinc 2 1, 3) := by decide +kernel
theorem dX4_goesOn_129 : decode cX4_goesOn 129 = .ok (.goto (-41), 3) := by decide +kernel
theorem dX4_goesOn_132 : decode cX4_goesOn 132 = .ok (.iconst 0, 1) := by decide +kernel
theorem dX4_goesOn_133 : decode cX4_goesOn 133 = .ok (.istore_n 2, 1) := by decide +kernel
theorem dX4_goesOn_134 : decode cX4_goesOn 134 = .ok (.iload_n 2, 1) := by decide +kernel
theorem dX4_goesOn_135 : decode cX4_goesOn 135 = .ok (.aload_n 0, 1) := by decide +kernel
theorem dX4_goesOn_136 : decode cX4_goesOn 136 = .ok (.getfield 121, 3) := by decide +kernel
theorem dX4_goesOn_139 : decode cX4_goesOn 139 = .ok (.if_icmp .ge 21, 3) := by decide +kernel
theorem dX4_goesOn_142 : decode cX4_goesOn 142 = .ok (.aload_n 0, 1) := by decide +kernel
theorem dX4_goesOn_143 : decode cX4_goesOn 143 = .ok (.getfield 139, 3) := by decide +kernel
theorem dX4_goesOn_146 : decode cX4_goesOn 146 = .ok (.ifCond .le 14, 3) := by decide +kernel
theorem dX4_goesOn_149 : decode cX4_goesOn 149 = .ok (.aload_n 0, 1) := by decide +kernel
theorem dX4_goesOn_150 : decode cX4_goesOn 150 = .ok (.iload_n 2, 1) := by decide +kernel
theorem dX4_goesOn_151 : decode cX4_goesOn 151 = .ok (.invokevirtual 224, 3) := by decide +kernel
theorem dX4_goesOn_154 : decode cX4_goesOn 154 = .ok (.iinc 2 1, 3) := by decide +kernel
theorem dX4_goesOn_157 : decode cX4_goesOn 157 = .ok (.goto (-23), 3) := by decide +kernel
theorem dX4_goesOn_160 : decode cX4_goesOn 160 = .ok (.aload_n 0, 1) := by decide +kernel
theorem dX4_goesOn_161 : decode cX4_goesOn 161 = .ok (.invokevirtual 227, 3) := by decide +kernel
theorem dX4_goesOn_164 : decode cX4_goesOn 164 = .ok (.iconst 0, 1) := by decide +kernel
theorem dX4_goesOn_165 : decode cX4_goesOn 165 = .ok (.istore_n 2, 1) := by decide +kernel
theorem dX4_goesOn_166 : decode cX4_goesOn 166 = .ok (.iload_n 2, 1) := by decide +kernel
theorem dX4_goesOn_167 : decode cX4_goesOn 167 = .ok (.aload_n 0, 1) := by decide +kernel
theorem dX4_goesOn_168 : decode cX4_goesOn 168 = .ok (.getfield 212, 3) := by decide +kernel
theorem dX4_goesOn_171 : decode cX4_goesOn 171 = .ok (.if_icmp .ge 20, 3) := by decide +kernel
theorem dX4_goesOn_174 : decode cX4_goesOn 174 = .ok (.aload_n 0, 1) := by decide +kernel
theorem dX4_goesOn_175 : decode cX4_goesOn 175 = .ok (.aload_n 0, 1) := by decide +kernel
theorem dX4_goesOn_176 : decode cX4_goesOn 176 = .ok (.getfield 111, 3) := by decide +kernel
theorem dX4_goesOn_179 : decode cX4_goesOn 179 = .ok (.iload_n 2, 1) := by decide +kernel
theorem dX4_goesOn_180 : decode cX4_goesOn 180 = .ok (.iaload, 1) := by decide +kernel
theorem dX4_goesOn_181 : decode cX4_goesOn 181 = .ok (.invokevirtual 178, 3) := by decide +kernel
theorem dX4_goesOn_184 : decode cX4_goesOn 184 = .ok (.istore_n 3, 1) := by decide +kernel
theorem dX4_goesOn_185 : decode cX4_goesOn 185 = .ok (.iinc 2 1, 3) := by decide +kernel
theorem dX4_goesOn_188 : decode cX4_goesOn 188 = .ok (.goto (-22), 3) := by decide +kernel
theorem dX4_goesOn_191 : decode cX4_goesOn 191 = .ok (.iconst 0, 1) := by decide +kernel
theorem dX4_goesOn_192 : decode cX4_goesOn 192 = .ok (.istore_n 2, 1) := by decide +kernel
theorem dX4_goesOn_193 : decode cX4_goesOn 193 = .ok (.iload_n 2, 1) := by decide +kernel
theorem dX4_goesOn_194 : decode cX4_goesOn 194 = .ok (.aload_n 0, 1) := by decide +kernel
theorem dX4_goesOn_195 : decode cX4_goesOn 195 = .ok (.getfield 114, 3) := by decide +kernel
theorem dX4_goesOn_198 : decode cX4_goesOn 198 = .ok (.if_icmp .ge 35, 3) := by decide +kernel
theorem dX4_goesOn_201 : decode cX4_goesOn 201 = .ok (.aload_n 0, 1) := by decide +kernel
theorem dX4_goesOn_202 : decode cX4_goesOn 202 = .ok (.getfield 38, 3) := by decide +kernel
theorem dX4_goesOn_205 : decode cX4_goesOn 205 = .ok (.iload_n 2, 1) := by decide +kernel
theorem dX4_goesOn_206 : decode cX4_goesOn 206 = .ok (.iaload, 1) := by decide +kernel
theorem dX4_goesOn_207 : decode cX4_goesOn 207 = .ok (.iconst 3, 1) := by decide +kernel
theorem dX4_goesOn_208 : decode cX4_goesOn 208 = .ok (.if_icmp .ne 19, 3) := by decide +kernel
theorem dX4_goesOn_211 : decode cX4_goesOn 211 = .ok (.aload_n 0, 1) := by decide +kernel
theorem dX4_goesOn_212 : decode cX4_goesOn 212 = .ok (.getfield 41, 3) := by decide +kernel
theorem dX4_goesOn_215 : decode cX4_goesOn 215 = .ok (.iload_n 2, 1) := by decide +kernel
theorem dX4_goesOn_216 : decode cX4_goesOn 216 = .ok (.iaload, 1) := by decide +kernel
theorem dX4_goesOn_217 : decode cX4_goesOn 217 = .ok (.ifCond .ne 10, 3) := by decide +kernel
theorem dX4_goesOn_220 : decode cX4_goesOn 220 = .ok (.aload_n 0, 1) := by decide +kernel
theorem dX4_goesOn_221 : decode cX4_goesOn 221 = .ok (.getfield 38, 3) := by decide +kernel
theorem dX4_goesOn_224 : decode cX4_goesOn 224 = .ok (.iload_n 2, 1) := by decide +kernel
theorem dX4_goesOn_225 : decode cX4_goesOn 225 = .ok (.iconst 4, 1) := by decide +kernel
theorem dX4_goesOn_226 : decode cX4_goesOn 226 = .ok (.iastore, 1) := by decide +kernel
theorem dX4_goesOn_227 : decode cX4_goesOn 227 = .ok (.iinc 2 1, 3) := by decide +kernel
theorem dX4_goesOn_230 : decode cX4_goesOn 230 = .ok (.goto (-37), 3) := by decide +kernel
theorem dX4_goesOn_233 : decode cX4_goesOn 233 = .ok (.iload_n 1, 1) := by decide +kernel
theorem dX4_goesOn_234 : decode cX4_goesOn 234 = .ok (.ireturn, 1) := by decide +kernel
theorem dX4_ticks_0 : decode cX4_ticks 0 = .ok (.iload_n 1, 1) := by decide +kernel
theorem dX4_ticks_1 : decode cX4_ticks 1 = .ok (.iconst 1, 1) := by decide +kernel
theorem dX4_ticks_2 : decode cX4_ticks 2 = .ok (.if_icmp .ge 10, 3) := by decide +kernel
theorem dX4_ticks_5 : decode cX4_ticks 5 = .ok (.aload_n 0, 1) := by decide +kernel
theorem dX4_ticks_6 : decode cX4_ticks 6 = .ok (.bipush (-4), 2) := by decide +kernel
theorem dX4_ticks_8 : decode cX4_ticks 8 = .ok (.invokevirtual 124, 3) := by decide +kernel
theorem dX4_ticks_11 : decode cX4_ticks 11 = .ok (.ireturn, 1) := by decide +kernel
theorem dX4_ticks_12 : decode cX4_ticks 12 = .ok (.iload_n 1, 1) := by decide +kernel
theorem dX4_ticks_13 : decode cX4_ticks 13 = .ok (.sipush 20000, 3) := by decide +kernel
theorem dX4_ticks_16 : decode cX4_ticks 16 = .ok (.aload_n 0, 1) := by decide +kernel
theorem dX4_ticks_17 : decode cX4_ticks 17 = .ok (.getfield 163, 3) := by decide +kernel
theorem dX4_ticks_20 : decode cX4_ticks 20 = .ok (.isub, 1) := by decide +kernel
theorem dX4_ticks_21 : decode cX4_ticks 21 = .ok (.if_icmp .le 10, 3) := by decide +kernel
theorem dX4_ticks_24 : decode cX4_ticks 24 = .ok (.aload_n 0, 1) := by decide +kernel
theorem dX4_ticks_25 : decode cX4_ticks 25 = .ok (.bipush (-6), 2) := by decide +kernel
theorem dX4_ticks_27 : decode cX4_ticks 27 = .ok (.invokevirtual 124, 3) := by decide +kernel
theorem dX4_ticks_30 : decode cX4_ticks 30 = .ok (.ireturn, 1) := by decide +kernel
theorem dX4_ticks_31 : decode cX4_ticks 31 = .ok (.iconst 0, 1) := by decide +kernel
theorem dX4_ticks_32 : decode cX4_ticks 32 = .ok (.istore_n 2, 1) := by decide +kernel
theorem dX4_ticks_33 : decode cX4_ticks 33 = .ok (.iconst 0, 1) := by decide +kernel
theorem dX4_ticks_34 : decode cX4_ticks 34 = .ok (.istore_n 3, 1) := by decide +kernel
theorem dX4_ticks_35 : decode cX4_ticks 35 = .ok (.iload_n 3, 1) := by decide +kernel
theorem dX4_ticks_36 : decode cX4_ticks 36 = .ok (.iload_n 1, 1) := by decide +kernel
theorem dX4_ticks_37 : decode cX4_ticks 37 = .ok (.if_icmp .ge 16, 3) := by decide +kernel
theorem dX4_ticks_40 : decode cX4_ticks 40 = .ok (.iload_n 2, 1) := by decide +kernel
theorem dX4_ticks_41 : decode cX4_ticks 41 = .ok (.aload_n 0, 1) := by decide +kernel
theorem dX4_ticks_42 : decode cX4_ticks 42 = .ok (.invokevirtual 230, 3) := by decide +kernel
theorem dX4_ticks_45 : decode cX4_ticks 45 = .ok (.iadd, 1) := by decide +kernel
theorem dX4_ticks_46 : decode cX4_ticks 46 = .ok (.istore_n 2, 1) := by decide +kernel
theorem dX4_ticks_47 : decode cX4_ticks 47 = .ok (.iinc 3 1, 3) := by decide +kernel
theorem dX4_ticks_50 : decode cX4_ticks 50 = .ok (.goto (-15), 3) := by decide +kernel
theorem dX4_ticks_53 : decode cX4_ticks 53 = .ok (.iload_n 2, 1) := by decide +kernel
theorem dX4_ticks_54 : decode cX4_ticks 54 = .ok (.ireturn, 1) := by decide +kernel
theorem dX4_pick_0 : decode cX4_pick 0 = .ok (.iload_n 1, 1) := by decide +kernel
theorem dX4_pick_1 : decode cX4_pick 1 = .ok (.ifCond .ge 10, 3) := by decide +kernel
theorem dX4_pick_4 : decode cX4_pick 4 = .ok (.aload_n 0, 1) := by decide +kernel
theorem dX4_pick_5 : decode cX4_pick 5 = .ok (.bipush (-4), 2) := by decide +kernel
theorem dX4_pick_7 : decode cX4_pick 7 = .ok (.invokevirtual 124, 3) := by decide +kernel
theorem dX4_pick_10 : decode cX4_pick 10 = .ok (.ireturn, 1) := by decide +kernel
theorem dX4_pick_11 : decode cX4_pick 11 = .ok (.iload_n 1, 1) := by decide +kernel
theorem dX4_pick_12 : decode cX4_pick 12 = .ok (.ldc 143, 2) := by decide +kernel
theorem dX4_pick_14 : decode cX4_pick 14 = .ok (.if_icmp .lt 10, 3) := by decide +kernel
theorem dX4_pick_17 : decode cX4_pick 17 = .ok (.aload_n 0, 1) := by decide +kernel
theorem dX4_pick_18 : decode cX4_pick 18 = .ok (.bipush (-6), 2) := by decide +kernel
theorem dX4_pick_20 : decode cX4_pick 20 = .ok (.invokevirtual 124, 3) := by decide +kernel
theorem dX4_pick_23 : decode cX4_pick 23 = .ok (.ireturn, 1) := by decide +kernel
theorem dX4_pick_24 : decode cX4_pick 24 = .ok (.aload_n 0, 1) := by decide +kernel
theorem dX4_pick_25 : decode cX4_pick 25 = .ok (.iconst 0, 1) := by decide +kernel
theorem dX4_pick_26 : decode cX4_pick 26 = .ok (.invokevirtual 167, 3) := by decide +kernel
theorem dX4_pick_29 : decode cX4_pick 29 = .ok (.istore_n 2, 1) := by decide +kernel
theorem dX4_pick_30 : decode cX4_pick 30 = .ok (.iload_n 2, 1) := by decide +kernel
theorem dX4_pick_31 : decode cX4_pick 31 = .ok (.ifCond .ne 8, 3) := by decide +kernel
theorem dX4_pick_34 : decode cX4_pick 34 = .ok (.bipush (-9), 2) := by decide +kernel
theorem dX4_pick_36 : decode cX4_pick 36 = .ok (.goto 10, 3) := by decide +kernel
theorem dX4_pick_39 : decode cX4_pick 39 = .ok (.aload_n 0, 1) := by decide +kernel
theorem dX4_pick_40 : decode cX4_pick 40 = .ok (.iload_n 2, 1) := by decide +kernel
theorem dX4_pick_41 : decode cX4_pick 41 = .ok (.iload_n 1, 1) := by decide +kernel
theorem dX4_pick_42 : decode cX4_pick 42 = .ok (.iconst 0, 1) := by decide +kernel
theorem dX4_pick_43 : decode cX4_pick 43 = .ok (.invokevirtual 170, 3) := by decide +kernel
theorem dX4_pick_46 : decode cX4_pick 46 = .ok (.ireturn, 1) := by decide +kernel
theorem dX4_callOf_0 : decode cX4_callOf 0 = .ok (.aload_n 0, 1) := by decide +kernel
theorem dX4_callOf_1 : decode cX4_callOf 1 = .ok (.iload_n 1, 1) := by decide +kernel
theorem dX4_callOf_2 : decode cX4_callOf 2 = .ok (.invokevirtual 193, 3) := by decide +kernel
theorem dX4_callOf_5 : decode cX4_callOf 5 = .ok (.ifCond .ne 9, 3) := by decide +kernel
theorem dX4_callOf_8 : decode cX4_callOf 8 = .ok (.aload_n 0, 1) := by decide +kernel
theorem dX4_callOf_9 : decode cX4_callOf 9 = .ok (.iconst (-1), 1) := by decide +kernel
theorem dX4_callOf_10 : decode cX4_callOf 10 = .ok (.invokevirtual 124, 3) := by decide +kernel
theorem dX4_callOf_13 : decode cX4_callOf 13 = .ok (.ireturn, 1) := by decide +kernel
theorem dX4_callOf_14 : decode cX4_callOf 14 = .ok (.iload_n 2, 1) := by decide +kernel
theorem dX4_callOf_15 : decode cX4_callOf 15 = .ok (.tableswitch 196 0 10 #[57, 64, 71, 78, 85, 100, 107, 149, 175, 182, 189], 57) := by decide +kernel
theorem dX4_callOf_72 : decode cX4_callOf 72 = .ok (.aload_n 0, 1) := by decide +kernel
theorem dX4_callOf_73 : decode cX4_callOf 73 = .ok (.getfield 77, 3) := by decide +kernel
theorem dX4_callOf_76 : decode cX4_callOf 76 = .ok (.iload_n 1, 1) := by decide +kernel
theorem dX4_callOf_77 : decode cX4_callOf 77 = .ok (.iaload, 1) := by decide +kernel
theorem dX4_callOf_78 : decode cX4_callOf 78 = .ok (.ireturn, 1) := by decide +kernel
theorem dX4_callOf_79 : decode cX4_callOf 79 = .ok (.aload_n 0, 1) := by decide +kernel
theorem dX4_callOf_80 : decode cX4_callOf 80 = .ok (.getfield 68, 3) := by decide +kernel
theorem dX4_callOf_83 : decode cX4_callOf 83 = .ok (.iload_n 1, 1) := by decide +kernel
theorem dX4_callOf_84 : decode cX4_callOf 84 = .ok (.iaload, 1) := by decide +kernel
theorem dX4_callOf_85 : decode cX4_callOf 85 = .ok (.ireturn, 1) := by decide +kernel
theorem dX4_callOf_86 : decode cX4_callOf 86 = .ok (.aload_n 0, 1) := by decide +kernel
theorem dX4_callOf_87 : decode cX4_callOf 87 = .ok (.getfield 71, 3) := by decide +kernel
theorem dX4_callOf_90 : decode cX4_callOf 90 = .ok (.iload_n 1, 1) := by decide +kernel
theorem dX4_callOf_91 : decode cX4_callOf 91 = .ok (.iaload, 1) := by decide +kernel
theorem dX4_callOf_92 : decode cX4_callOf 92 = .ok (.ireturn, 1) := by decide +kernel
theorem dX4_callOf_93 : decode cX4_callOf 93 = .ok (.aload_n 0, 1) := by decide +kernel
theorem dX4_callOf_94 : decode cX4_callOf 94 = .ok (.getfield 74, 3) := by decide +kernel
theorem dX4_callOf_97 : decode cX4_callOf 97 = .ok (.iload_n 1, 1) := by decide +kernel
theorem dX4_callOf_98 : decode cX4_callOf 98 = .ok (.iaload, 1) := by decide +kernel
theorem dX4_callOf_99 : decode cX4_callOf 99 = .ok (.ireturn, 1) := by decide +kernel
theorem dX4_callOf_100 : decode cX4_callOf 100 = .ok (.aload_n 0, 1) := by decide +kernel
theorem dX4_callOf_101 : decode cX4_callOf 101 = .ok (.getfield 95, 3) := by decide +kernel
theorem dX4_callOf_104 : decode cX4_callOf 104 = .ok (.iload_n 1, 1) := by decide +kernel
theorem dX4_callOf_105 : decode cX4_callOf 105 = .ok (.baload, 1) := by decide +kernel
theorem dX4_callOf_106 : decode cX4_callOf 106 = .ok (.ifCond .eq 7, 3) := by decide +kernel
theorem dX4_callOf_109 : decode cX4_callOf 109 = .ok (.iconst 1, 1) := by decide +kernel
theorem dX4_callOf_110 : decode cX4_callOf 110 = .ok (.goto 4, 3) := by decide +kernel
theorem dX4_callOf_113 : decode cX4_callOf 113 = .ok (.iconst 0, 1) := by decide +kernel
theorem dX4_callOf_114 : decode cX4_callOf 114 = .ok (.ireturn, 1) := by decide +kernel
theorem dX4_callOf_115 : decode cX4_callOf 115 = .ok (.aload_n 0, 1) := by decide +kernel
theorem dX4_callOf_116 : decode cX4_callOf 116 = .ok (.getfield 80, 3) := by decide +kernel
theorem dX4_callOf_119 : decode cX4_callOf 119 = .ok (.iload_n 1, 1) := by decide +kernel
theorem dX4_callOf_120 : decode cX4_callOf 120 = .ok (.iaload, 1) := by decide +kernel
theorem dX4_callOf_121 : decode cX4_callOf 121 = .ok (.ireturn, 1) := by decide +kernel
theorem dX4_callOf_122 : decode cX4_callOf 122 = .ok (.aload_n 0, 1) := by decide +kernel
theorem dX4_callOf_123 : decode cX4_callOf 123 = .ok (.getfield 77, 3) := by decide +kernel
theorem dX4_callOf_126 : decode cX4_callOf 126 = .ok (.iload_n 1, 1) := by decide +kernel
theorem dX4_callOf_127 : decode cX4_callOf 127 = .ok (.iaload, 1) := by decide +kernel
theorem dX4_callOf_128 : decode cX4_callOf 128 = .ok (.iconst 2, 1) := by decide +kernel
theorem dX4_callOf_129 : decode cX4_callOf 129 = .ok (.if_icmp .ne 12, 3) := by decide +kernel
theorem dX4_callOf_132 : decode cX4_callOf 132 = .ok (.aload_n 0, 1) := by decide +kernel
theorem dX4_callOf_133 : decode cX4_callOf 133 = .ok (.getfield 92, 3) := by decide +kernel
theorem dX4_callOf_136 : decode cX4_callOf 136 = .ok (.iload_n 1, 1) := by decide +kernel
theorem dX4_callOf_137 : decode cX4_callOf 137 = .ok (.iaload, 1) := by decide +kernel
theorem dX4_callOf_138 : decode cX4_callOf 138 = .ok (.goto 25, 3) := by decide +kernel
theorem dX4_callOf_141 : decode cX4_callOf 141 = .ok (.aload_n 0, 1) := by decide +kernel
theorem dX4_callOf_142 : decode cX4_callOf 142 = .ok (.getfield 80, 3) := by decide +kernel
theorem dX4_callOf_145 : decode cX4_callOf 145 = .ok (.iload_n 1, 1) := by decide +kernel
theorem dX4_callOf_146 : decode cX4_callOf 146 = .ok (.iaload, 1) := by decide +kernel
theorem dX4_callOf_147 : decode cX4_callOf 147 = .ok (.ifCond .le 14, 3) := by decide +kernel
theorem dX4_callOf_150 : decode cX4_callOf 150 = .ok (.aload_n 0, 1) := by decide +kernel
theorem dX4_callOf_151 : decode cX4_callOf 151 = .ok (.getfield 99, 3) := by decide +kernel
theorem dX4_callOf_154 : decode cX4_callOf 154 = .ok (.iconst 2, 1) := by decide +kernel
theorem dX4_callOf_155 : decode cX4_callOf 155 = .ok (.iload_n 1, 1) := by decide +kernel
theorem dX4_callOf_156 : decode cX4_callOf 156 = .ok (.imul, 1) := by decide +kernel
theorem dX4_callOf_157 : decode cX4_callOf 157 = .ok (.iaload, 1) := by decide +kernel
theorem dX4_callOf_158 : decode cX4_callOf 158 = .ok (.goto 5, 3) := by decide +kernel
theorem dX4_callOf_161 : decode cX4_callOf 161 = .ok (.bipush (-9), 2) := by decide +kernel
theorem dX4_callOf_163 : decode cX4_callOf 163 = .ok (.ireturn, 1) := by decide +kernel
theorem dX4_callOf_164 : decode cX4_callOf 164 = .ok (.aload_n 0, 1) := by decide +kernel
theorem dX4_callOf_165 : decode cX4_callOf 165 = .ok (.getfield 80, 3) := by decide +kernel
theorem dX4_callOf_168 : decode cX4_callOf 168 = .ok (.iload_n 1, 1) := by decide +kernel
theorem dX4_callOf_169 : decode cX4_callOf 169 = .ok (.iaload, 1) := by decide +kernel
theorem dX4_callOf_170 : decode cX4_callOf 170 = .ok (.iconst 1, 1) := by decide +kernel
theorem dX4_callOf_171 : decode cX4_callOf 171 = .ok (.if_icmp .le 16, 3) := by decide +kernel
theorem dX4_callOf_174 : decode cX4_callOf 174 = .ok (.aload_n 0, 1) := by decide +kernel
theorem dX4_callOf_175 : decode cX4_callOf 175 = .ok (.getfield 99, 3) := by decide +kernel
theorem dX4_callOf_178 : decode cX4_callOf 178 = .ok (.iconst 2, 1) := by decide +kernel
theorem dX4_callOf_179 : decode cX4_callOf 179 = .ok (.iload_n 1, 1) := by decide +kernel
theorem dX4_callOf_180 : decode cX4_callOf 180 = .ok (.imul, 1) := by decide +kernel
theorem dX4_callOf_181 : decode cX4_callOf 181 = .ok (.iconst 1, 1) := by decide +kernel
theorem dX4_callOf_182 : decode cX4_callOf 182 = .ok (.iadd, 1) := by decide +kernel
theorem dX4_callOf_183 : decode cX4_callOf 183 = .ok (.iaload, 1) := by decide +kernel
theorem dX4_callOf_184 : decode cX4_callOf 184 = .ok (.goto 5, 3) := by decide +kernel
theorem dX4_callOf_187 : decode cX4_callOf 187 = .ok (.bipush (-9), 2) := by decide +kernel
theorem dX4_callOf_189 : decode cX4_callOf 189 = .ok (.ireturn, 1) := by decide +kernel
theorem dX4_callOf_190 : decode cX4_callOf 190 = .ok (.aload_n 0, 1) := by decide +kernel
theorem dX4_callOf_191 : decode cX4_callOf 191 = .ok (.getfield 83, 3) := by decide +kernel
theorem dX4_callOf_194 : decode cX4_callOf 194 = .ok (.iload_n 1, 1) := by decide +kernel
theorem dX4_callOf_195 : decode cX4_callOf 195 = .ok (.iaload, 1) := by decide +kernel
theorem dX4_callOf_196 : decode cX4_callOf 196 = .ok (.ireturn, 1) := by decide +kernel
theorem dX4_callOf_197 : decode cX4_callOf 197 = .ok (.aload_n 0, 1) := by decide +kernel
theorem dX4_callOf_198 : decode cX4_callOf 198 = .ok (.getfield 86, 3) := by decide +kernel
theorem dX4_callOf_201 : decode cX4_callOf 201 = .ok (.iload_n 1, 1) := by decide +kernel
theorem dX4_callOf_202 : decode cX4_callOf 202 = .ok (.iaload, 1) := by decide +kernel
theorem dX4_callOf_203 : decode cX4_callOf 203 = .ok (.ireturn, 1) := by decide +kernel
theorem dX4_callOf_204 : decode cX4_callOf 204 = .ok (.aload_n 0, 1) := by decide +kernel
theorem dX4_callOf_205 : decode cX4_callOf 205 = .ok (.getfield 89, 3) := by decide +kernel
theorem dX4_callOf_208 : decode cX4_callOf 208 = .ok (.iload_n 1, 1) := by decide +kernel
theorem dX4_callOf_209 : decode cX4_callOf 209 = .ok (.iaload, 1) := by decide +kernel
theorem dX4_callOf_210 : decode cX4_callOf 210 = .ok (.ireturn, 1) := by decide +kernel
theorem dX4_callOf_211 : decode cX4_callOf 211 = .ok (.aload_n 0, 1) := by decide +kernel
theorem dX4_callOf_212 : decode cX4_callOf 212 = .ok (.bipush (-2), 2) := by decide +kernel
theorem dX4_callOf_214 : decode cX4_callOf 214 = .ok (.invokevirtual 124, 3) := by decide +kernel
theorem dX4_callOf_217 : decode cX4_callOf 217 = .ok (.ireturn, 1) := by decide +kernel
theorem dX4_serverOf_0 : decode cX4_serverOf 0 = .ok (.aload_n 0, 1) := by decide +kernel
theorem dX4_serverOf_1 : decode cX4_serverOf 1 = .ok (.iload_n 1, 1) := by decide +kernel
theorem dX4_serverOf_2 : decode cX4_serverOf 2 = .ok (.invokevirtual 128, 3) := by decide +kernel
theorem dX4_serverOf_5 : decode cX4_serverOf 5 = .ok (.ifCond .ne 9, 3) := by decide +kernel
theorem dX4_serverOf_8 : decode cX4_serverOf 8 = .ok (.aload_n 0, 1) := by decide +kernel
theorem dX4_serverOf_9 : decode cX4_serverOf 9 = .ok (.iconst (-1), 1) := by decide +kernel
theorem dX4_serverOf_10 : decode cX4_serverOf 10 = .ok (.invokevirtual 124, 3) := by decide +kernel
theorem dX4_serverOf_13 : decode cX4_serverOf 13 = .ok (.ireturn, 1) := by decide +kernel
theorem dX4_serverOf_14 : decode cX4_serverOf 14 = .ok (.iload_n 2, 1) := by decide +kernel
theorem dX4_serverOf_15 : decode cX4_serverOf 15 = .ok (.tableswitch 207 0 15 #[77, 84, 91, 98, 105, 112, 119, 141, 148, 155, 165, 172, 179, 186, 193, 200], 77) := by decide +kernel
theorem dX4_serverOf_92 : decode cX4_serverOf 92 = .ok (.aload_n 0, 1) := by decide +kernel
theorem dX4_serverOf_93 : decode cX4_serverOf 93 = .ok (.getfield 38, 3) := by decide +kernel
theorem dX4_serverOf_96 : decode cX4_serverOf 96 = .ok (.iload_n 1, 1) := by decide +kernel
theorem dX4_serverOf_97 : decode cX4_serverOf 97 = .ok (.iaload, 1) := by decide +kernel
theorem dX4_serverOf_98 : decode cX4_serverOf 98 = .ok (.ireturn, 1) := by decide +kernel
theorem dX4_serverOf_99 : decode cX4_serverOf 99 = .ok (.aload_n 0, 1) := by decide +kernel
theorem dX4_serverOf_100 : decode cX4_serverOf 100 = .ok (.getfield 41, 3) := by decide +kernel
theorem dX4_serverOf_103 : decode cX4_serverOf 103 = .ok (.iload_n 1, 1) := by decide +kernel
theorem dX4_serverOf_104 : decode cX4_serverOf 104 = .ok (.iaload, 1) := by decide +kernel
theorem dX4_serverOf_105 : decode cX4_serverOf 105 = .ok (.ireturn, 1) := by decide +kernel
theorem dX4_serverOf_106 : decode cX4_serverOf 106 = .ok (.aload_n 0, 1) := by decide +kernel
theorem dX4_serverOf_107 : decode cX4_serverOf 107 = .ok (.getfield 44, 3) := by decide +kernel
theorem dX4_serverOf_110 : decode cX4_serverOf 110 = .ok (.iload_n 1, 1) := by decide +kernel
theorem dX4_serverOf_111 : decode cX4_serverOf 111 = .ok (.iaload, 1) := by decide +kernel
theorem dX4_serverOf_112 : decode cX4_serverOf 112 = .ok (.ireturn, 1) := by decide +kernel
theorem dX4_serverOf_113 : decode cX4_serverOf 113 = .ok (.aload_n 0, 1) := by decide +kernel
theorem dX4_serverOf_114 : decode cX4_serverOf 114 = .ok (.getfield 47, 3) := by decide +kernel
theorem dX4_serverOf_117 : decode cX4_serverOf 117 = .ok (.iload_n 1, 1) := by decide +kernel
theorem dX4_serverOf_118 : decode cX4_serverOf 118 = .ok (.iaload, 1) := by decide +kernel
theorem dX4_serverOf_119 : decode cX4_serverOf 119 = .ok (.ireturn, 1) := by decide +kernel
theorem dX4_serverOf_120 : decode cX4_serverOf 120 = .ok (.aload_n 0, 1) := by decide +kernel
theorem dX4_serverOf_121 : decode cX4_serverOf 121 = .ok (.getfield 50, 3) := by decide +kernel
theorem dX4_serverOf_124 : decode cX4_serverOf 124 = .ok (.iload_n 1, 1) := by decide +kernel
theorem dX4_serverOf_125 : decode cX4_serverOf 125 = .ok (.iaload, 1) := by decide +kernel
theorem dX4_serverOf_126 : decode cX4_serverOf 126 = .ok (.ireturn, 1) := by decide +kernel
theorem dX4_serverOf_127 : decode cX4_serverOf 127 = .ok (.aload_n 0, 1) := by decide +kernel
theorem dX4_serverOf_128 : decode cX4_serverOf 128 = .ok (.getfield 53, 3) := by decide +kernel
theorem dX4_serverOf_131 : decode cX4_serverOf 131 = .ok (.iload_n 1, 1) := by decide +kernel
theorem dX4_serverOf_132 : decode cX4_serverOf 132 = .ok (.iaload, 1) := by decide +kernel
theorem dX4_serverOf_133 : decode cX4_serverOf 133 = .ok (.ireturn, 1) := by decide +kernel
theorem dX4_serverOf_134 : decode cX4_serverOf 134 = .ok (.aload_n 0, 1) := by decide +kernel
theorem dX4_serverOf_135 : decode cX4_serverOf 135 = .ok (.getfield 38, 3) := by decide +kernel
theorem dX4_serverOf_138 : decode cX4_serverOf 138 = .ok (.iload_n 1, 1) := by decide +kernel
theorem dX4_serverOf_139 : decode cX4_serverOf 139 = .ok (.iaload, 1) := by decide +kernel
theorem dX4_serverOf_140 : decode cX4_serverOf 140 = .ok (.iconst 1, 1) := by decide +kernel
theorem dX4_serverOf_141 : decode cX4_serverOf 141 = .ok (.if_icmp .ne 12, 3) := by decide +kernel
theorem dX4_serverOf_144 : decode cX4_serverOf 144 = .ok (.aload_n 0, 1) := by decide +kernel
theorem dX4_serverOf_145 : decode cX4_serverOf 145 = .ok (.getfield 56, 3) := by decide +kernel
theorem dX4_serverOf_148 : decode cX4_serverOf 148 = .ok (.iload_n 1, 1) := by decide +kernel
theorem dX4_serverOf_149 : decode cX4_serverOf 149 = .ok (.iaload, 1) := by decide +kernel
theorem dX4_serverOf_150 : decode cX4_serverOf 150 = .ok (.goto 5, 3) := by decide +kernel
theorem dX4_serverOf_153 : decode cX4_serverOf 153 = .ok (.bipush (-9), 2) := by decide +kernel
theorem dX4_serverOf_155 : decode cX4_serverOf 155 = .ok (.ireturn, 1) := by decide +kernel
theorem dX4_serverOf_156 : decode cX4_serverOf 156 = .ok (.aload_n 0, 1) := by decide +kernel
theorem dX4_serverOf_157 : decode cX4_serverOf 157 = .ok (.getfield 59, 3) := by decide +kernel
theorem dX4_serverOf_160 : decode cX4_serverOf 160 = .ok (.iload_n 1, 1) := by decide +kernel
theorem dX4_serverOf_161 : decode cX4_serverOf 161 = .ok (.iaload, 1) := by decide +kernel
theorem dX4_serverOf_162 : decode cX4_serverOf 162 = .ok (.ireturn, 1) := by decide +kernel
theorem dX4_serverOf_163 : decode cX4_serverOf 163 = .ok (.aload_n 0, 1) := by decide +kernel
theorem dX4_serverOf_164 : decode cX4_serverOf 164 = .ok (.getfield 62, 3) := by decide +kernel
theorem dX4_serverOf_167 : decode cX4_serverOf 167 = .ok (.iload_n 1, 1) := by decide +kernel
theorem dX4_serverOf_168 : decode cX4_serverOf 168 = .ok (.iaload, 1) := by decide +kernel
theorem dX4_serverOf_169 : decode cX4_serverOf 169 = .ok (.ireturn, 1) := by decide +kernel
theorem dX4_serverOf_170 : decode cX4_serverOf 170 = .ok (.aload_n 0, 1) := by decide +kernel
theorem dX4_serverOf_171 : decode cX4_serverOf 171 = .ok (.getfield 65, 3) := by decide +kernel
theorem dX4_serverOf_174 : decode cX4_serverOf 174 = .ok (.iload_n 1, 1) := by decide +kernel
theorem dX4_serverOf_175 : decode cX4_serverOf 175 = .ok (.iaload, 1) := by decide +kernel
theorem dX4_serverOf_176 : decode cX4_serverOf 176 = .ok (.ldc 234, 2) := by decide +kernel
theorem dX4_serverOf_178 : decode cX4_serverOf 178 = .ok (.iadd, 1) := by decide +kernel
theorem dX4_serverOf_179 : decode cX4_serverOf 179 = .ok (.ireturn, 1) := by decide +kernel
theorem dX4_serverOf_180 : decode cX4_serverOf 180 = .ok (.aload_n 0, 1) := by decide +kernel
theorem dX4_serverOf_181 : decode cX4_serverOf 181 = .ok (.getfield 20, 3) := by decide +kernel
theorem dX4_serverOf_184 : decode cX4_serverOf 184 = .ok (.iload_n 1, 1) := by decide +kernel
theorem dX4_serverOf_185 : decode cX4_serverOf 185 = .ok (.iaload, 1) := by decide +kernel
theorem dX4_serverOf_186 : decode cX4_serverOf 186 = .ok (.ireturn, 1) := by decide +kernel
theorem dX4_serverOf_187 : decode cX4_serverOf 187 = .ok (.aload_n 0, 1) := by decide +kernel
theorem dX4_serverOf_188 : decode cX4_serverOf 188 = .ok (.getfield 23, 3) := by decide +kernel
theorem dX4_serverOf_191 : decode cX4_serverOf 191 = .ok (.iload_n 1, 1) := by decide +kernel
theorem dX4_serverOf_192 : decode cX4_serverOf 192 = .ok (.iaload, 1) := by decide +kernel
theorem dX4_serverOf_193 : decode cX4_serverOf 193 = .ok (.ireturn, 1) := by decide +kernel
theorem dX4_serverOf_194 : decode cX4_serverOf 194 = .ok (.aload_n 0, 1) := by decide +kernel
theorem dX4_serverOf_195 : decode cX4_serverOf 195 = .ok (.getfield 26, 3) := by decide +kernel
theorem dX4_serverOf_198 : decode cX4_serverOf 198 = .ok (.iload_n 1, 1) := by decide +kernel
theorem dX4_serverOf_199 : decode cX4_serverOf 199 = .ok (.iaload, 1) := by decide +kernel
theorem dX4_serverOf_200 : decode cX4_serverOf 200 = .ok (.ireturn, 1) := by decide +kernel
theorem dX4_serverOf_201 : decode cX4_serverOf 201 = .ok (.aload_n 0, 1) := by decide +kernel
theorem dX4_serverOf_202 : decode cX4_serverOf 202 = .ok (.getfield 29, 3) := by decide +kernel
theorem dX4_serverOf_205 : decode cX4_serverOf 205 = .ok (.iload_n 1, 1) := by decide +kernel
theorem dX4_serverOf_206 : decode cX4_serverOf 206 = .ok (.iaload, 1) := by decide +kernel
theorem dX4_serverOf_207 : decode cX4_serverOf 207 = .ok (.ireturn, 1) := by decide +kernel
theorem dX4_serverOf_208 : decode cX4_serverOf 208 = .ok (.aload_n 0, 1) := by decide +kernel
theorem dX4_serverOf_209 : decode cX4_serverOf 209 = .ok (.getfield 32, 3) := by decide +kernel
theorem dX4_serverOf_212 : decode cX4_serverOf 212 = .ok (.iload_n 1, 1) := by decide +kernel
theorem dX4_serverOf_213 : decode cX4_serverOf 213 = .ok (.iaload, 1) := by decide +kernel
theorem dX4_serverOf_214 : decode cX4_serverOf 214 = .ok (.ireturn, 1) := by decide +kernel
theorem dX4_serverOf_215 : decode cX4_serverOf 215 = .ok (.aload_n 0, 1) := by decide +kernel
theorem dX4_serverOf_216 : decode cX4_serverOf 216 = .ok (.getfield 35, 3) := by decide +kernel
theorem dX4_serverOf_219 : decode cX4_serverOf 219 = .ok (.iload_n 1, 1) := by decide +kernel
theorem dX4_serverOf_220 : decode cX4_serverOf 220 = .ok (.iaload, 1) := by decide +kernel
theorem dX4_serverOf_221 : decode cX4_serverOf 221 = .ok (.ireturn, 1) := by decide +kernel
theorem dX4_serverOf_222 : decode cX4_serverOf 222 = .ok (.aload_n 0, 1) := by decide +kernel
theorem dX4_serverOf_223 : decode cX4_serverOf 223 = .ok (.bipush (-2), 2) := by decide +kernel
theorem dX4_serverOf_225 : decode cX4_serverOf 225 = .ok (.invokevirtual 124, 3) := by decide +kernel
theorem dX4_serverOf_228 : decode cX4_serverOf 228 = .ok (.ireturn, 1) := by decide +kernel
theorem dX4_mark_0 : decode cX4_mark 0 = .ok (.aload_n 0, 1) := by decide +kernel
theorem dX4_mark_1 : decode cX4_mark 1 = .ok (.iload_n 1, 1) := by decide +kernel
theorem dX4_mark_2 : decode cX4_mark 2 = .ok (.invokevirtual 128, 3) := by decide +kernel
theorem dX4_mark_5 : decode cX4_mark 5 = .ok (.ifCond .ne 9, 3) := by decide +kernel
theorem dX4_mark_8 : decode cX4_mark 8 = .ok (.aload_n 0, 1) := by decide +kernel
theorem dX4_mark_9 : decode cX4_mark 9 = .ok (.iconst (-1), 1) := by decide +kernel
theorem dX4_mark_10 : decode cX4_mark 10 = .ok (.invokevirtual 124, 3) := by decide +kernel
theorem dX4_mark_13 : decode cX4_mark 13 = .ok (.ireturn, 1) := by decide +kernel
theorem dX4_mark_14 : decode cX4_mark 14 = .ok (.iload_n 2, 1) := by decide +kernel
theorem dX4_mark_15 : decode cX4_mark 15 = .ok (.iconst 4, 1) := by decide +kernel
theorem dX4_mark_16 : decode cX4_mark 16 = .ok (.invokestatic 117, 3) := by decide +kernel
theorem dX4_mark_19 : decode cX4_mark 19 = .ok (.ifCond .eq 11, 3) := by decide +kernel
theorem dX4_mark_22 : decode cX4_mark 22 = .ok (.iload_n 1, 1) := by decide +kernel
theorem dX4_mark_23 : decode cX4_mark 23 = .ok (.iload_n 2, 1) := by decide +kernel
theorem dX4_mark_24 : decode cX4_mark 24 = .ok (.invokestatic 144, 3) := by decide +kernel
theorem dX4_mark_27 : decode cX4_mark 27 = .ok (.goto 9, 3) := by decide +kernel
theorem dX4_mark_30 : decode cX4_mark 30 = .ok (.aload_n 0, 1) := by decide +kernel
theorem dX4_mark_31 : decode cX4_mark 31 = .ok (.bipush (-2), 2) := by decide +kernel
theorem dX4_mark_33 : decode cX4_mark 33 = .ok (.invokevirtual 124, 3) := by decide +kernel
theorem dX4_mark_36 : decode cX4_mark 36 = .ok (.ireturn, 1) := by decide +kernel
theorem dX4_queue_0 : decode cX4_queue 0 = .ok (.aload_n 0, 1) := by decide +kernel
theorem dX4_queue_1 : decode cX4_queue 1 = .ok (.invokevirtual 227, 3) := by decide +kernel
theorem dX4_queue_4 : decode cX4_queue 4 = .ok (.iload_n 1, 1) := by decide +kernel
theorem dX4_queue_5 : decode cX4_queue 5 = .ok (.aload_n 0, 1) := by decide +kernel
theorem dX4_queue_6 : decode cX4_queue 6 = .ok (.getfield 212, 3) := by decide +kernel
theorem dX4_queue_9 : decode cX4_queue 9 = .ok (.invokestatic 117, 3) := by decide +kernel
theorem dX4_queue_12 : decode cX4_queue 12 = .ok (.ifCond .eq 12, 3) := by decide +kernel
theorem dX4_queue_15 : decode cX4_queue 15 = .ok (.aload_n 0, 1) := by decide +kernel
theorem dX4_queue_16 : decode cX4_queue 16 = .ok (.getfield 111, 3) := by decide +kernel
theorem dX4_queue_19 : decode cX4_queue 19 = .ok (.iload_n 1, 1) := by decide +kernel
theorem dX4_queue_20 : decode cX4_queue 20 = .ok (.iaload, 1) := by decide +kernel
theorem dX4_queue_21 : decode cX4_queue 21 = .ok (.goto 5, 3) := by decide +kernel
theorem dX4_queue_24 : decode cX4_queue 24 = .ok (.bipush (-9), 2) := by decide +kernel
theorem dX4_queue_26 : decode cX4_queue 26 = .ok (.ireturn, 1) := by decide +kernel
theorem dX4_share_0 : decode cX4_share 0 = .ok (.aload_n 0, 1) := by decide +kernel
theorem dX4_share_1 : decode cX4_share 1 = .ok (.iload_n 1, 1) := by decide +kernel
theorem dX4_share_2 : decode cX4_share 2 = .ok (.invokevirtual 128, 3) := by decide +kernel
theorem dX4_share_5 : decode cX4_share 5 = .ok (.ifCond .ne 9, 3) := by decide +kernel
theorem dX4_share_8 : decode cX4_share 8 = .ok (.aload_n 0, 1) := by decide +kernel
theorem dX4_share_9 : decode cX4_share 9 = .ok (.iconst (-1), 1) := by decide +kernel
theorem dX4_share_10 : decode cX4_share 10 = .ok (.invokevirtual 124, 3) := by decide +kernel
theorem dX4_share_13 : decode cX4_share 13 = .ok (.ireturn, 1) := by decide +kernel
theorem dX4_share_14 : decode cX4_share 14 = .ok (.aload_n 0, 1) := by decide +kernel
theorem dX4_share_15 : decode cX4_share 15 = .ok (.getfield 160, 3) := by decide +kernel
theorem dX4_share_18 : decode cX4_share 18 = .ok (.ifCond .ne 7, 3) := by decide +kernel
theorem dX4_share_21 : decode cX4_share 21 = .ok (.iconst 0, 1) := by decide +kernel
theorem dX4_share_22 : decode cX4_share 22 = .ok (.goto 18, 3) := by decide +kernel
theorem dX4_share_25 : decode cX4_share 25 = .ok (.sipush 1000, 3) := by decide +kernel
theorem dX4_share_28 : decode cX4_share 28 = .ok (.aload_n 0, 1) := by decide +kernel
theorem dX4_share_29 : decode cX4_share 29 = .ok (.getfield 44, 3) := by decide +kernel
theorem dX4_share_32 : decode cX4_share 32 = .ok (.iload_n 1, 1) := by decide +kernel
theorem dX4_share_33 : decode cX4_share 33 = .ok (.iaload, 1) := by decide +kernel
theorem dX4_share_34 : decode cX4_share 34 = .ok (.imul, 1) := by decide +kernel
theorem dX4_share_35 : decode cX4_share 35 = .ok (.aload_n 0, 1) := by decide +kernel
theorem dX4_share_36 : decode cX4_share 36 = .ok (.getfield 160, 3) := by decide +kernel
theorem dX4_share_39 : decode cX4_share 39 = .ok (.idiv, 1) := by decide +kernel
theorem dX4_share_40 : decode cX4_share 40 = .ok (.ireturn, 1) := by decide +kernel
theorem dX4_inState_0 : decode cX4_inState 0 = .ok (.iconst 0, 1) := by decide +kernel
theorem dX4_inState_1 : decode cX4_inState 1 = .ok (.istore_n 2, 1) := by decide +kernel
theorem dX4_inState_2 : decode cX4_inState 2 = .ok (.iconst 0, 1) := by decide +kernel
theorem dX4_inState_3 : decode cX4_inState 3 = .ok (.istore_n 3, 1) := by decide +kernel
theorem dX4_inState_4 : decode cX4_inState 4 = .ok (.iload_n 3, 1) := by decide +kernel
theorem dX4_inState_5 : decode cX4_inState 5 = .ok (.aload_n 0, 1) := by decide +kernel
theorem dX4_inState_6 : decode cX4_inState 6 = .ok (.getfield 121, 3) := by decide +kernel
theorem dX4_inState_9 : decode cX4_inState 9 = .ok (.if_icmp .ge 27, 3) := by decide +kernel
theorem dX4_inState_12 : decode cX4_inState 12 = .ok (.iload_n 2, 1) := by decide +kernel
theorem dX4_inState_13 : decode cX4_inState 13 = .ok (.aload_n 0, 1) := by decide +kernel
theorem dX4_inState_14 : decode cX4_inState 14 = .ok (.getfield 77, 3) := by decide +kernel
theorem dX4_inState_17 : decode cX4_inState 17 = .ok (.iload_n 3, 1) := by decide +kernel
theorem dX4_inState_18 : decode cX4_inState 18 = .ok (.iaload, 1) := by decide +kernel
theorem dX4_inState_19 : decode cX4_inState 19 = .ok (.iload_n 1, 1) := by decide +kernel
theorem dX4_inState_20 : decode cX4_inState 20 = .ok (.if_icmp .ne 7, 3) := by decide +kernel
theorem dX4_inState_23 : decode cX4_inState 23 = .ok (.iconst 1, 1) := by decide +kernel
theorem dX4_inState_24 : decode cX4_inState 24 = .ok (.goto 4, 3) := by decide +kernel
theorem dX4_inState_27 : decode cX4_inState 27 = .ok (.iconst 0, 1) := by decide +kernel
theorem dX4_inState_28 : decode cX4_inState 28 = .ok (.iadd, 1) := by decide +kernel
theorem dX4_inState_29 : decode cX4_inState 29 = .ok (.istore_n 2, 1) := by decide +kernel
theorem dX4_inState_30 : decode cX4_inState 30 = .ok (.iinc 3 1, 3) := by decide +kernel
theorem dX4_inState_33 : decode cX4_inState 33 = .ok (.goto (-29), 3) := by decide +kernel
theorem dX4_inState_36 : decode cX4_inState 36 = .ok (.iload_n 2, 1) := by decide +kernel
theorem dX4_inState_37 : decode cX4_inState 37 = .ok (.ireturn, 1) := by decide +kernel
theorem dX4_count_0 : decode cX4_count 0 = .ok (.iload_n 1, 1) := by decide +kernel
theorem dX4_count_1 : decode cX4_count 1 = .ok (.bipush 10, 2) := by decide +kernel
theorem dX4_count_3 : decode cX4_count 3 = .ok (.if_icmp .le 19, 3) := by decide +kernel
theorem dX4_count_6 : decode cX4_count 6 = .ok (.iload_n 1, 1) := by decide +kernel
theorem dX4_count_7 : decode cX4_count 7 = .ok (.bipush 17, 2) := by decide +kernel
theorem dX4_count_9 : decode cX4_count 9 = .ok (.if_icmp .ge 13, 3) := by decide +kernel
theorem dX4_count_12 : decode cX4_count 12 = .ok (.aload_n 0, 1) := by decide +kernel
theorem dX4_count_13 : decode cX4_count 13 = .ok (.getfield 7, 3) := by decide +kernel
theorem dX4_count_16 : decode cX4_count 16 = .ok (.iload_n 1, 1) := by decide +kernel
theorem dX4_count_17 : decode cX4_count 17 = .ok (.bipush 10, 2) := by decide +kernel
theorem dX4_count_19 : decode cX4_count 19 = .ok (.isub, 1) := by decide +kernel
theorem dX4_count_20 : decode cX4_count 20 = .ok (.iaload, 1) := by decide +kernel
theorem dX4_count_21 : decode cX4_count 21 = .ok (.ireturn, 1) := by decide +kernel
theorem dX4_count_22 : decode cX4_count 22 = .ok (.iconst 0, 1) := by decide +kernel
theorem dX4_count_23 : decode cX4_count 23 = .ok (.istore_n 2, 1) := by decide +kernel
theorem dX4_count_24 : decode cX4_count 24 = .ok (.iload_n 1, 1) := by decide +kernel
theorem dX4_count_25 : decode cX4_count 25 = .ok (.tableswitch 152 0 17 #[87, 92, 97, 102, 102, 102, 102, 102, 110, 115, 120, 152, 152, 152, 152, 152, 152, 125], 87) := by decide +kernel
theorem dX4_count_112 : decode cX4_count 112 = .ok (.aload_n 0, 1) := by decide +kernel
theorem dX4_count_113 : decode cX4_count 113 = .ok (.getfield 163, 3) := by decide +kernel
theorem dX4_count_116 : decode cX4_count 116 = .ok (.ireturn, 1) := by decide +kernel
theorem dX4_count_117 : decode cX4_count 117 = .ok (.aload_n 0, 1) := by decide +kernel
theorem dX4_count_118 : decode cX4_count 118 = .ok (.getfield 114, 3) := by decide +kernel
theorem dX4_count_121 : decode cX4_count 121 = .ok (.ireturn, 1) := by decide +kernel
theorem dX4_count_122 : decode cX4_count 122 = .ok (.aload_n 0, 1) := by decide +kernel
theorem dX4_count_123 : decode cX4_count 123 = .ok (.getfield 121, 3) := by decide +kernel
theorem dX4_count_126 : decode cX4_count 126 = .ok (.ireturn, 1) := by decide +kernel
theorem dX4_count_127 : decode cX4_count 127 = .ok (.aload_n 0, 1) := by decide +kernel
theorem dX4_count_128 : decode cX4_count 128 = .ok (.iload_n 1, 1) := by decide +kernel
theorem dX4_count_129 : decode cX4_count 129 = .ok (.iconst 3, 1) := by decide +kernel
theorem dX4_count_130 : decode cX4_count 130 = .ok (.isub, 1) := by decide +kernel
theorem dX4_count_131 : decode cX4_count 131 = .ok (.invokevirtual 235, 3) := by decide +kernel
theorem dX4_count_134 : decode cX4_count 134 = .ok (.ireturn, 1) := by decide +kernel
theorem dX4_count_135 : decode cX4_count 135 = .ok (.aload_n 0, 1) := by decide +kernel
theorem dX4_count_136 : decode cX4_count 136 = .ok (.getfield 160, 3) := by decide +kernel
theorem dX4_count_139 : decode cX4_count 139 = .ok (.ireturn, 1) := by decide +kernel
theorem dX4_count_140 : decode cX4_count 140 = .ok (.aload_n 0, 1) := by decide +kernel
theorem dX4_count_141 : decode cX4_count 141 = .ok (.getfield 206, 3) := by decide +kernel
theorem dX4_count_144 : decode cX4_count 144 = .ok (.ireturn, 1) := by decide +kernel
theorem dX4_count_145 : decode cX4_count 145 = .ok (.aload_n 0, 1) := by decide +kernel
theorem dX4_count_146 : decode cX4_count 146 = .ok (.getfield 209, 3) := by decide +kernel
theorem dX4_count_149 : decode cX4_count 149 = .ok (.ireturn, 1) := by decide +kernel
theorem dX4_count_150 : decode cX4_count 150 = .ok (.iconst 0, 1) := by decide +kernel
theorem dX4_count_151 : decode cX4_count 151 = .ok (.istore_n 3, 1) := by decide +kernel
theorem dX4_count_152 : decode cX4_count 152 = .ok (.iload_n 3, 1) := by decide +kernel
theorem dX4_count_153 : decode cX4_count 153 = .ok (.aload_n 0, 1) := by decide +kernel
theorem dX4_count_154 : decode cX4_count 154 = .ok (.getfield 114, 3) := by decide +kernel
theorem dX4_count_157 : decode cX4_count 157 = .ok (.if_icmp .ge 18, 3) := by decide +kernel
theorem dX4_count_160 : decode cX4_count 160 = .ok (.iload_n 2, 1) := by decide +kernel
theorem dX4_count_161 : decode cX4_count 161 = .ok (.aload_n 0, 1) := by decide +kernel
theorem dX4_count_162 : decode cX4_count 162 = .ok (.getfield 41, 3) := by decide +kernel
theorem dX4_count_165 : decode cX4_count 165 = .ok (.iload_n 3, 1) := by decide +kernel
theorem dX4_count_166 : decode cX4_count 166 = .ok (.iaload, 1) := by decide +kernel
theorem dX4_count_167 : decode cX4_count 167 = .ok (.iadd, 1) := by decide +kernel
theorem dX4_count_168 : decode cX4_count 168 = .ok (.istore_n 2, 1) := by decide +kernel
theorem dX4_count_169 : decode cX4_count 169 = .ok (.iinc 3 1, 3) := by decide +kernel
theorem dX4_count_172 : decode cX4_count 172 = .ok (.goto (-20), 3) := by decide +kernel
theorem dX4_count_175 : decode cX4_count 175 = .ok (.iload_n 2, 1) := by decide +kernel
theorem dX4_count_176 : decode cX4_count 176 = .ok (.ireturn, 1) := by decide +kernel
theorem dX4_count_177 : decode cX4_count 177 = .ok (.bipush (-9), 2) := by decide +kernel
theorem dX4_count_179 : decode cX4_count 179 = .ok (.ireturn, 1) := by decide +kernel
end
section
/-! plain facts -/
theorem pz_lt {x y : Int32} (h : x < y) : x.toInt < y.toInt := Int32.lt_iff_toInt_lt.mp h
theorem pz_nlt {x y : Int32} (h : ¬ x < y) : y.toInt ≤ x.toInt := Int.not_lt.mp (fun q => h (Int32.lt_iff_toInt_lt.mpr q))
theorem pz_le {x y : Int32} (h : x ≤ y) : x.toInt ≤ y.toInt := Int32.le_iff_toInt_le.mp h
theorem pz_nle {x y : Int32} (h : ¬ x ≤ y) : y.toInt < x.toInt := Int.not_le.mp (fun q => h (Int32.le_iff_toInt_le.mpr q))
theorem pz_ge {x y : Int32} (h : y ≤ x) : y.toInt ≤ x.toInt := pz_le h
theorem pz_nge {x y : Int32} (h : ¬ y ≤ x) : x.toInt < y.toInt := pz_nle h
theorem pz_gt {x y : Int32} (h : y < x) : y.toInt < x.toInt := pz_lt h
theorem pz_ngt {x y : Int32} (h : ¬ y < x) : x.toInt ≤ y.toInt := pz_nlt h
theorem pz_eq {x y : Int32} (h : x = y) : x.toInt = y.toInt := congrArg Int32.toInt h
theorem pz_neq {x y : Int32} (h : ¬ x = y) : ¬ x.toInt = y.toInt := fun q => h (Int32.toInt_inj.mp q)
theorem pz_nne {x y : Int32} (h : ¬ ¬ x = y) : x.toInt = y.toInt := congrArg Int32.toInt (Classical.not_not.mp h)
theorem pz_of {x : Int32} {n : Nat} (h : 0 ≤ x.toInt) (h2 : x.toInt < (n : Int)) : ∃ j : Nat, j < n ∧ x = nI j := by
  have h0 : ¬ x < 0 := fun q => by
    have h9 := pz_lt q
    have h8 : (0 : Int32).toInt = 0 := by decide
    omega
  obtain ⟨j, hj, e⟩ := nI_of h0
  refine ⟨j, ?_, e⟩
  have e2 : x.toInt = (j : Int) := by rw [e]; exact nI_toInt hj
  omega
theorem pz_cl {j : Nat} (h : j < 2147483648) : (nI j).toNatClampNeg = j := nI_clamp (by omega)
theorem pz_ti {j : Nat} (h : j < 2147483648) : (nI j).toInt = (j : Int) := nI_toInt (by omega)
theorem pz_vi {j n : Nat} (h : j < n) (hn : n < 2147483648) : vp_in (nI j) n := vp_in_nI h (by omega)
/-! the tables -/
abbrev Kt (dC : Nat → ClassId) (dI : Nat → Nat → Nat) (U : State) : Prop := va_K (dC, dI) vwCl [(dC 6, .int), (dC 7, .boolean), (dC 8, .object "java/lang/Object")] U
def kNm : Nat → String := fun k => match k with
  | 0 => RJx4a65c
  | 1 => RX0
  | 2 => RX1
  | 3 => RX2
  | 4 => RX3
  | 5 => RX4
  | 6 => "[" ++ (FieldType.int).toString
  | 7 => "[" ++ (FieldType.boolean).toString
  | _ => "[" ++ (FieldType.object "java/lang/Object").toString
theorem kNm_inj : ∀ i, i < 9 → ∀ j, j < 9 → kNm i = kNm j → i = j := by decide +kernel
theorem Kt.name {dC : Nat → ClassId} {dI : Nat → Nat → Nat} {U : State} (h : Kt dC dI U) : ∀ i, i < 9 → U.vm.findClass (kNm i) = some (dC i) := by
  intro i hi
  match i, hi with
  | 0, _ => exact (h.1 0 _ rfl).2.1
  | 1, _ => exact (h.1 1 _ rfl).2.1
  | 2, _ => exact (h.1 2 _ rfl).2.1
  | 3, _ => exact (h.1 3 _ rfl).2.1
  | 4, _ => exact (h.1 4 _ rfl).2.1
  | 5, _ => exact (h.1 5 _ rfl).2.1
  | 6, _ => exact (h.2 0 _ rfl).2
  | 7, _ => exact (h.2 1 _ rfl).2
  | 8, _ => obtain ⟨-, kA, comp, h1, h2, h3, h4⟩ := h.2 2 _ rfl; exact h4
  | n + 9, hi => omega
theorem Kt.inj {dC : Nat → ClassId} {dI : Nat → Nat → Nat} {U : State} (h : Kt dC dI U) : ∀ i, i < 9 → ∀ j, j < 9 → dC i = dC j → i = j := by
  intro i hi j hj e
  obtain ⟨k1, a1, b1⟩ := Vm.findClass_spec (h.name i hi)
  obtain ⟨k2, a2, b2⟩ := Vm.findClass_spec (h.name j hj)
  rw [e] at a1
  have e2 : k1 = k2 := Option.some.inj (a1.symm.trans a2)
  exact kNm_inj i hi j hj (by rw [← b1, ← b2, e2])
/-! cells by themselves -/
abbrev oat (dC : Nat → ClassId) (dI : Nat → Nat → Nat) (a ci : Nat) (fs : List Value) (H : Heap) : Prop := va_at (dC, dI) vwCl (a, .inr (ci, fs)) H
abbrev iat (dC : Nat → ClassId) (dI : Nat → Nat → Nat) (a ci n : Nat) (f : Nat → Int32) (H : Heap) : Prop := va_at (dC, dI) vwCl (a, .inl (dC ci, n, .inl f)) H
abbrev qat (dC : Nat → ClassId) (dI : Nat → Nat → Nat) (a n : Nat) (f : Nat → Option Nat) (H : Heap) : Prop := va_at (dC, dI) vwCl (a, .inl (dC 8, n, .inr (.inr (.inr (.inr f))))) H
theorem oat_cls {dC : Nat → ClassId} {dI : Nat → Nat → Nat} {a ci : Nat} {fs : List Value} {H : Heap} (h : oat dC dI a ci fs H) : ∃ cell : Cell, H[a]? = some cell ∧ cell.cls = dC ci := by
  obtain ⟨r, h1, cell, h2, h3, -⟩ := h
  exact ⟨cell, h2, h3⟩
theorem iat_cls {dC : Nat → ClassId} {dI : Nat → Nat → Nat} {a ci n : Nat} {f : Nat → Int32} {H : Heap} (h : iat dC dI a ci n f H) : ∃ cell : Cell, H[a]? = some cell ∧ cell.cls = dC ci := ⟨_, h, rfl⟩
theorem qat_cls {dC : Nat → ClassId} {dI : Nat → Nat → Nat} {a n : Nat} {f : Nat → Option Nat} {H : Heap} (h : qat dC dI a n f H) : ∃ cell : Cell, H[a]? = some cell ∧ cell.cls = dC 8 := ⟨_, h, rfl⟩
theorem cls_ne {dC : Nat → ClassId} {a b i j : Nat} {H : Heap} (hinj : ∀ i, i < 9 → ∀ j, j < 9 → dC i = dC j → i = j) (h1 : ∃ cell : Cell, H[a]? = some cell ∧ cell.cls = dC i) (h2 : ∃ cell : Cell, H[b]? = some cell ∧ cell.cls = dC j) (hi : i < 9) (hj : j < 9) (hij : i ≠ j) : a ≠ b := by
  intro e
  subst e
  obtain ⟨c1, a1, b1⟩ := h1
  obtain ⟨c2, a2, b2⟩ := h2
  have e2 : c1 = c2 := Option.some.inj (a1.symm.trans a2)
  subst e2
  exact hij (hinj i hi j hj (b1.symm.trans b2))
def szq (H : Heap) (q : Nat) : Option Nat := (H[q]?).map (fun c => c.slots.size)
/-- one cell alone has changed -/
def One (a : Nat) (H H1 : Heap) : Prop := H1.size = H.size ∧ (∀ q : Nat, q ≠ a → H1[q]? = H[q]?) ∧ ∀ q : Nat, szq H1 q = szq H q
theorem One.oat {dC : Nat → ClassId} {dI : Nat → Nat → Nat} {a q ci : Nat} {fs : List Value} {H H1 : Heap} (h : One a H H1) (ho : oat dC dI q ci fs H) (hq : q ≠ a) : oat dC dI q ci fs H1 := va_at.kept ho (h.2.1 q hq)
theorem One.iat {dC : Nat → ClassId} {dI : Nat → Nat → Nat} {a q ci n : Nat} {f : Nat → Int32} {H H1 : Heap} (h : One a H H1) (ho : iat dC dI q ci n f H) (hq : q ≠ a) : iat dC dI q ci n f H1 := va_at.kept ho (h.2.1 q hq)
theorem One.qat {dC : Nat → ClassId} {dI : Nat → Nat → Nat} {a q n : Nat} {f : Nat → Option Nat} {H H1 : Heap} (h : One a H H1) (ho : qat dC dI q n f H) (hq : q ≠ a) : qat dC dI q n f H1 := va_at.kept ho (h.2.1 q hq)
theorem One.of {a i : Nat} {v : Value} {cell : Cell} {H H1 : Heap} (hc : H[a]? = some cell) (e1 : H1[a]? = some (cell.setSlot i v)) (e2 : H1.size = H.size) (e3 : ∀ q : Nat, q ≠ a → H1[q]? = H[q]?) : One a H H1 := by
  refine ⟨e2, e3, fun q => ?_⟩
  by_cases hq : q = a
  · subst hq
    unfold szq
    rw [e1, hc]
    simp [Cell.setSlot]
  · unfold szq
    rw [e3 q hq]
section B10
variable {p : Program} {l : Launch} {e : Env} {R : Room} {s : State} {m : MethodId} {args : Array Value} {below : List Frame} {meth : Method} {c : Code} {H : Heap} {locs : List Loc} {cells slots : Nat} {Q : State → Prop}
def sls (H : Heap) (n : Nat) : Nat := ((H.toList.drop n).map (fun c => c.slots.size)).sum
/-- the counters of what is new, read off the heap itself -/
theorem W.tight {g : JFrame} (k n : Nat) (h1 : H.size ≤ s.heap.size + k) (h2 : sls H s.heap.size ≤ n) (kk : W p l e R s m args below meth c H locs k n Q g) : W p l e R s m args below meth c H locs cells slots Q g := by
  intro T hT X
  have hs : s.sameButNew (T.setVm s.vm) locs k n := by
    obtain ⟨a1, a2, a3, a4, a5, a6⟩ := X.same
    exact ⟨a1, a2, by show T.heap.size ≤ _; rw [hT]; exact h1, a4, by show sls T.heap _ ≤ n; rw [hT]; exact h2, a6⟩
  exact kk T hT { X with same := hs }
variable {cc : ByteArray} {pc : Nat} {ls : Array Slot} {rest : List Value} {dC : Nat → ClassId} {dI : Nat → Nat → Nat} {A : Nat → Prop} {a : Nat} {H0 : Heap} {Ts : List Cond}
theorem x_get (hx : p.tables.exec = Jvm.exec) (hb : c.code = cc) {own ref C : String} {T : u_T} {N ci index : Nat} (hts : ∀ w ∈ Ts, w.before args s = true) (hin : ∀ w ∈ u_ws C T N, w ∈ Ts) (hown : s.vm.findClass own = some m.cls) (hK : Kt dC dI s) {fs : List Value} (ho : oat dC dI a ci fs H) (hc : vwCl[ci]? = some (C, T, N)) (k : Nat) (hk : k < N) (hlink : (Cond.fieldLink own index ref (T k).2.1 (T k).2.2.1).before args s = true) (hsame : ∀ x, s.fieldFound? (T k).1 (T k).2.1 (T k).2.2.1 = some x → s.fieldFound? ref (T k).2.1 (T k).2.2.1 = some x) {v : Value} (hv : fs[k]? = some v) (hdg : decode cc pc = .ok (.getfield index, 3))
    (kk : W p l e R s m args below meth c H locs cells slots Q (F0 m (pc + 3) ls (v :: rest))) : W p l e R s m args below meth c H locs cells slots Q (F0 m pc ls (.ref a :: rest)) :=
  va_get (D := (dC, dI)) (cl := vwCl) (ws := [(a, .inr (ci, fs))]) (ci := ci) (v := v) (C := C) (T := T) (N := N) hx hb hts hin hown hK (fun j q h => by
    match j, h with
    | 0, h => cases h; exact ho
    | n + 1, h => simp at h) 0 rfl hc k hk hlink hsame hv hdg kk
theorem x_put (hx : p.tables.exec = Jvm.exec) (hb : c.code = cc) {own ref C : String} {T : u_T} {N ci index : Nat} (hts : ∀ w ∈ Ts, w.before args s = true) (hin : ∀ w ∈ u_ws C T N, w ∈ Ts) (ty0 : Nat → FieldType) (hty : ∀ k, k < N → parseFieldDescriptor (T k).2.2.1 = some (ty0 k)) (hnm : ∀ a, a < N → ∀ b, b < N → a ≠ b → (T a).2.1 ≠ (T b).2.1) (hown : s.vm.findClass own = some m.cls) (hK : Kt dC dI s) (hS0 : va_S A H0 H locs) (hA : A a) {fs : List Value} (ho : oat dC dI a ci fs H) (hc : vwCl[ci]? = some (C, T, N)) (k : Nat) (hk : k < N) (hlink : (Cond.fieldLink own index ref (T k).2.1 (T k).2.2.1).before args s = true) (hsame : ∀ x, s.fieldFound? (T k).1 (T k).2.1 (T k).2.2.1 = some x → s.fieldFound? ref (T k).2.1 (T k).2.2.1 = some x) (hfin : (T k).2.2.2 = false) {ty : FieldType} {v : Value} (hd : parseFieldDescriptor (T k).2.2.1 = some ty) (hn : narrow ty v = v) (hfit : fits ty v = true) (hl : k < fs.length)
    (hdg : decode cc pc = .ok (.putfield index, 3)) (kk : ∀ (H1 : Heap) (locs1 : List Loc), oat dC dI a ci (fs.set k v) H1 → One a H H1 → va_S A H0 H1 locs1 → W p l e R s m args below meth c H1 locs1 cells slots Q (F0 m (pc + 3) ls rest)) : W p l e R s m args below meth c H locs cells slots Q (F0 m pc ls (v :: .ref a :: rest)) := by
  have hap := va_apart (own := own) hts hin ty0 hty hnm hK hc
  obtain ⟨r, h1, cell, q1, q2, q3, q4⟩ := ho
  have hr : r = (C, T, N) := Option.some.inj (h1.symm.trans hc)
  subst hr
  obtain ⟨hS, hfc, kC, hkC, hkind⟩ := hK.1 ci _ hc
  obtain ⟨cf, kf, fi, f, hi, hsl⟩ := hS k hk
  have hlay := hts _ (hin _ (u_in_lay hk))
  unfold u_lay at hlay
  rw [if_neg (by rw [hfin]; decide)] at hlay
  have hst := (u_facts hfc hkC (u_lays hts hin hk) hi).1
  have h6 := u_store hfc hkC hkind hlay hi hd hn hfit
  refine W.putK hx hb (f := f) ⟨hown, hlink, ⟨_, _, _, hsame _ hi⟩, hst⟩ (by rw [q2]; exact h6) q1 q3 (by rw [hsl]; exact k2_hasslot (q4 k hk)) rfl rfl hdg fun H' e1 e2 e3 => ?_
  have hO := One.of q1 e1 e2 e3
  rw [hsl] at e1 ⊢
  exact kk H' _ ⟨_, hc, t_OB.to (V := updV (vp_V fs) k v) ⟨_, e1, q2, q3, t_set q4 hap hk v⟩ (fun j _ => vp_updV_set hl v j)⟩ hO (hS0.put e2 e3 hA)
theorem x_iald (hx : p.tables.exec = Jvm.exec) (hb : c.code = cc) (hK : Kt dC dI s) {n : Nat} {f : Nat → Int32} (ho : iat dC dI a 6 n f H) {i : Int32} (hin : vp_in i n) (hdg : decode cc pc = .ok (.iaload, 1))
    (kk : W p l e R s m args below meth c H locs cells slots Q (F0 m (pc + 1) ls (.int (f i.toNatClampNeg) :: rest))) : W p l e R s m args below meth c H locs cells slots Q (F0 m pc ls (.int i :: .ref a :: rest)) :=
  va_iald (D := (dC, dI)) (cl := vwCl) (ws := [(a, .inl (dC 6, n, .inl f))]) hx hb hK (fun j q h => by
    match j, h with
    | 0, h => cases h; exact ho
    | n + 1, h => simp at h) 0 0 rfl rfl hin hdg kk
theorem x_zald (hx : p.tables.exec = Jvm.exec) (hb : c.code = cc) (hK : Kt dC dI s) {n : Nat} {f : Nat → Int32} (ho : iat dC dI a 7 n f H) {i : Int32} (hin : vp_in i n) (hdg : decode cc pc = .ok (.baload, 1))
    (kk : W p l e R s m args below meth c H locs cells slots Q (F0 m (pc + 1) ls (.int (f i.toNatClampNeg) :: rest))) : W p l e R s m args below meth c H locs cells slots Q (F0 m pc ls (.int i :: .ref a :: rest)) :=
  va_zald (D := (dC, dI)) (cl := vwCl) (ws := [(a, .inl (dC 7, n, .inl f))]) hx hb hK (fun j q h => by
    match j, h with
    | 0, h => cases h; exact ho
    | n + 1, h => simp at h) 0 1 rfl rfl hin hdg kk
theorem x_iast (hx : p.tables.exec = Jvm.exec) (hb : c.code = cc) (hK : Kt dC dI s) (hS : va_S A H0 H locs) (hA : A a) {n : Nat} {f : Nat → Int32} (ho : iat dC dI a 6 n f H) {i x : Int32} (hin : vp_in i n) (hdg : decode cc pc = .ok (.iastore, 1))
    (kk : ∀ (H1 : Heap) (locs1 : List Loc), iat dC dI a 6 n (upd f i.toNatClampNeg x) H1 → One a H H1 → va_S A H0 H1 locs1 → W p l e R s m args below meth c H1 locs1 cells slots Q (F0 m (pc + 1) ls rest)) : W p l e R s m args below meth c H locs cells slots Q (F0 m pc ls (.int x :: .int i :: .ref a :: rest)) := by
  refine W.iast hx hb ho ((hK.2 0 _ rfl).1 n (fun j => .int (f j))) (fun q => by cases q) (by show ¬ (i < 0 ∨ (arrV _ _ _).slots.size ≤ _); rw [arrV_size]; exact hin) rfl rfl hdg fun H1 e z oq => ?_
  refine kk H1 _ ?_ (One.of ho e z oq) (hS.put z oq hA)
  show H1[a]? = some (vp_cell _ _)
  rw [e]
  rw [vp_cell_i, vp_cell_i, arrV_store]
  congr 2
  funext q
  by_cases hq : q = i.toNatClampNeg
  · subst hq
    simp [updV, upd]
  · simp [updV, upd, hq]
theorem x_zast (hx : p.tables.exec = Jvm.exec) (hb : c.code = cc) (hK : Kt dC dI s) (hS : va_S A H0 H locs) (hA : A a) {n : Nat} {f : Nat → Int32} (ho : iat dC dI a 7 n f H) {i x : Int32} (hin : vp_in i n) (hdg : decode cc pc = .ok (.bastore, 1))
    (kk : ∀ (H1 : Heap) (locs1 : List Loc), iat dC dI a 7 n (upd f i.toNatClampNeg (vp_nar .boolean x)) H1 → One a H H1 → va_S A H0 H1 locs1 → W p l e R s m args below meth c H1 locs1 cells slots Q (F0 m (pc + 1) ls rest)) : W p l e R s m args below meth c H locs cells slots Q (F0 m pc ls (.int x :: .int i :: .ref a :: rest)) := by
  refine W.zast hx hb ho ((hK.2 1 _ rfl).1 n (fun j => .int (f j))) (fun q => by cases q) (by show ¬ (i < 0 ∨ (arrV _ _ _).slots.size ≤ _); rw [arrV_size]; exact hin) rfl rfl hdg fun H1 e z oq => ?_
  refine kk H1 _ ?_ (One.of ho e z oq) (hS.put z oq hA)
  show H1[a]? = some (vp_cell _ _)
  rw [e]
  rw [vp_cell_i, vp_cell_i, arrV_store]
  congr 2
  funext q
  by_cases hq : q = i.toNatClampNeg
  · subst hq
    simp [updV, upd, vp_nar]
    try rfl
  · simp [updV, upd, hq]
end B10
end
section
/-! contracts and calls in one form -/
def Qg (B : Option Value → Heap → Prop) (A : Nat → Prop) : Array Value → State → Outcome → State → Prop := fun _ st oc t => (∃ v : Option Value, oc = .returned v ∧ B v t.heap) ∧ va_F A st t
section B11
variable {p : Program} {l : Launch} {e : Env} {R : Room} {s : State} {m : MethodId} {args : Array Value} {below : List Frame} {meth : Method} {c : Code} {H : Heap} {locs : List Loc} {cells slots : Nat} {Q : State → Prop}
variable {cc : ByteArray} {pc : Nat} {ls : Array Slot} {rest st0 : List Value} {A A0 A1 : Nat → Prop} {H0 : Heap} {B : Option Value → Heap → Prop}
theorem r_i {v : Int32} (hx : p.tables.exec = Jvm.exec) (hb : c.code = cc) (hr : meth.sig.returnType = some .int) (hlocks : meth.locks = false) (hS : va_S A s.heap H locs) (hdg : decode cc pc = .ok (.ireturn, 1)) (hB : B (some (.int v)) H) : W p l e R s m args below meth c H locs cells slots (MQ below (Qg B A) args s cells slots A) (F0 m pc ls [.int v]) :=
  W.iret hx hb hr (fun t ht hW => ⟨⟨_, rfl, by rw [ht]; exact hB⟩, hS.F ht⟩) hS.2.2 hdg hlocks
theorem r_z {v : Int32} (hx : p.tables.exec = Jvm.exec) (hb : c.code = cc) (hr : meth.sig.returnType = some .boolean) (hn : narrow .boolean (.int v) = .int v) (hlocks : meth.locks = false) (hS : va_S A s.heap H locs) (hdg : decode cc pc = .ok (.ireturn, 1)) (hB : B (some (.int v)) H) : W p l e R s m args below meth c H locs cells slots (MQ below (Qg B A) args s cells slots A) (F0 m pc ls [.int v]) :=
  W.zret hx hb hr hn (fun t ht hW => ⟨⟨_, rfl, by rw [ht]; exact hB⟩, hS.F ht⟩) hS.2.2 hdg hlocks
theorem r_v (hx : p.tables.exec = Jvm.exec) (hb : c.code = cc) (hr : meth.sig.returnType = none) (hlocks : meth.locks = false) (hS : va_S A s.heap H locs) (hdg : decode cc pc = .ok (.return_, 1)) (hB : B none H) : W p l e R s m args below meth c H locs cells slots (MQ below (Qg B A) args s cells slots A) (F0 m pc ls []) :=
  W.vret hx hb hr (fun t ht hW => ⟨⟨_, rfl, by rw [ht]; exact hB⟩, hS.F ht⟩) hS.2.2 hdg hlocks
theorem r_a {o : Option Nat} {rt : FieldType} (hx : p.tables.exec = Jvm.exec) (hb : c.code = cc) (hr : meth.sig.returnType = some rt) (hrt : (∃ n, rt = .object n) ∨ ∃ t, rt = .array t) (hlocks : meth.locks = false) (hS : va_S A s.heap H locs) (hdg : decode cc pc = .ok (.areturn, 1)) (hB : B (some (va_rf o)) H) : W p l e R s m args below meth c H locs cells slots (MQ below (Qg B A) args s cells slots A) (F0 m pc ls [va_rf o]) :=
  W.aret hx hb hr hrt (by cases o with | none => exact Or.inl rfl | some a => exact Or.inr ⟨a, rfl⟩) (fun t ht hW => ⟨⟨_, rfl, by rw [ht]; exact hB⟩, hS.F ht⟩) hS.2.2 hdg hlocks
variable {y : MethodName} {bytes : ByteArray} {maxL nL mc ms index n : Nat} {ret : Option FieldType} {rm : Room} {KK : State → Prop} {Pw : Heap → Prop} {own C : String} {b : Addr} {As : List Value} {av : List Value}
theorem g_call (hr : va_Run p l e R s m args below meth c H locs cells slots mc ms (F0 m pc ls st0) rest (Qg B A1 args) A1) (hS : va_S A0 H0 H locs) (hA : ∀ q, A1 q → A0 q)
    (kk : ∀ (v : Option Value) (H1 : Heap) (locs1 : List Loc), B v H1 → H.size ≤ H1.size → (∀ q : Nat, q < H.size → ¬ A1 q → H1[q]? = H[q]?) → va_S A0 H0 H1 locs1 → W p l e R s m args below meth c H1 locs1 (cells + mc) (slots + ms) Q (F0 m (pc + 3) ls (v.toList ++ rest))) : W p l e R s m args below meth c H locs cells slots Q (F0 m pc ls st0) := by
  intro T hT X
  obtain ⟨v, st₀, t, T', L, h0, X', hL, e1, e2, ⟨⟨v', hv, hb⟩, hz, hk⟩, st⟩ := hr T hT X
  cases hv
  rw [h0] at hz hk
  obtain ⟨t2, a1, b1⟩ := kk v T'.heap (locs ++ L) (by rw [e1]; exact hb) (by rw [e1]; exact hz) (fun q h1 h2 => by rw [e1]; exact hk q h1 h2)
    ⟨Nat.le_trans hS.1 (by rw [e1]; exact hz), fun q h1 h2 => by rw [e1, hk q (Nat.lt_of_lt_of_le h1 hS.1) (fun z => h2 (hA q z))]; exact hS.2.1 q h1 h2, fun q hq => by
      rcases List.mem_append.mp hq with h | h
      · exact hS.2.2 q h
      · exact hA _ (hL q h)⟩ T' rfl X'
  exact ⟨t2, st t2 a1, b1⟩
abbrev cws (y : MethodName) (bytes : ByteArray) (maxL : Nat) (ret : Option FieldType) : List Cond := Cond.code y bytes maxL ret :: tb
theorem cws_good (h : Cond.code y bytes maxL ret ∈ tb) : GoodIn tb (cws y bytes maxL ret) := fun w hw => by
  rcases List.mem_cons.mp hw with e | e
  · subst e; exact tb_good _ h
  · exact tb_good _ e
theorem cws_app {ws : List Cond} (hl : ∀ w ∈ ws, w ∈ tb) {ws2 : List Cond} (h : GoodIn tb ws2) : GoodIn tb (ws ++ ws2) := fun w hw => by
  rcases List.mem_append.mp hw with e | e
  · exact tb_good _ (hl w e)
  · exact h w e
abbrev Blind (KK : State → Prop) : Prop := ∀ U U' : State, U'.heap = U.heap → U'.vm = U.vm → KK U → KK U'
theorem g_blind (h : Blind KK) : FrameBlind (va_Pc av (fun U => KK U ∧ Pw U.heap)) := fun a U g mk q => ⟨q.1, h U (U.calling g mk a) rfl rfl q.2.1, q.2.2⟩
theorem c_v (S : CallFix p m c cc nL s args tb own) (hM : Met l y (cws y bytes maxL ret) rm (va_Pc (.ref b :: As) (fun U => KK U ∧ Pw U.heap)) (Qg B A1) mc ms A1)
    (w1 : Cond.code y bytes maxL ret ∈ tb) (w2 : Cond.methodLink own index y ∈ tb) (w3 : Cond.instanceMethod y ∈ tb) (w4 : Cond.selects C y y ∈ tb) (w5 : Cond.initialized C ∈ tb)
    (hd : y.cls = C ∧ y.cls ≠ "java/lang/invoke/MethodHandle" ∧ y.cls ≠ "java/lang/invoke/VarHandle" ∧ (parseMethodDescriptor y.desc).map (fun d => d.parameters.length) = some n) (hn : As.length = n)
    (hR : rm.cells = mc ∧ rm.slots = ms ∧ rm.frames + 1 ≤ R.frames ∧ 8 + (maxL + 11) + rm.locals ≤ R.locals) (hbl : Blind KK)
    (hrecv : ∃ cell : Cell, H[b]? = some cell ∧ cell.vm.isStatics = false ∧ s.vm.findClass C = some cell.cls) (hk : ∀ U : State, U.heap = H → s.WarmedH U.vm → KK U) (hp : Pw H)
    (hsz : ls.size = nL) (hst : st0 = As.reverse ++ .ref b :: rest) (hw : (rest.map fun v => v.category).sum ≤ 8) (hdg : decode cc pc = .ok (.invokevirtual index, 3)) (hf : cells + mc ≤ R.cells ∧ slots + ms ≤ R.slots)
    (hS : va_S A0 H0 H locs) (hA : ∀ q, A1 q → A0 q)
    (kk : ∀ (v : Option Value) (H1 : Heap) (locs1 : List Loc), B v H1 → H.size ≤ H1.size → (∀ q : Nat, q < H.size → ¬ A1 q → H1[q]? = H[q]?) → va_S A0 H0 H1 locs1 → W p l e R s m args below meth c H1 locs1 (cells + mc) (slots + ms) Q (F0 m (pc + 3) ls (v.toList ++ rest))) : W p l e R s m args below meth c H locs cells slots Q (F0 m pc ls st0) :=
  g_call (B := B) (va_runV (As := As) (rest := rest) S hM (cwV n S.2.2.2.2 (cws_app (ws := [.methodLink own index y, .instanceMethod y, .selects C y y, .initialized C]) (fun w h => by simp at h; rcases h with h | h | h | h <;> subst h <;> assumption) (cws_good w1)) rfl hR.1 hR.2.1 hd hR.2.2) ⟨g_blind hbl, hrecv, fun U hU hW => ⟨rfl, hk U hU hW, by rw [hU]; exact hp⟩⟩ rfl hn hsz hst (by show 2 * 0 + _ ≤ 8; omega) hdg hf) hS hA kk
theorem c_s (S : CallFix p m c cc nL s args tb own) (hM : Met l y (cws y bytes maxL ret) rm (va_Pc As (fun U => KK U ∧ Pw U.heap)) (Qg B A1) mc ms A1)
    (w1 : Cond.code y bytes maxL ret ∈ tb) (w2 : Cond.methodLink own index y ∈ tb) (w3 : Cond.static y ∈ tb) (w5 : Cond.initialized y.cls ∈ tb)
    (hd : y.cls ≠ "java/lang/invoke/MethodHandle" ∧ y.cls ≠ "java/lang/invoke/VarHandle" ∧ (parseMethodDescriptor y.desc).map (fun d => d.parameters.length) = some n) (hn : As.length = n)
    (hR : rm.cells = mc ∧ rm.slots = ms ∧ rm.frames + 1 ≤ R.frames ∧ 8 + (maxL + 11) + rm.locals ≤ R.locals) (hbl : Blind KK)
    (hk : ∀ U : State, U.heap = H → s.WarmedH U.vm → KK U) (hp : Pw H)
    (hsz : ls.size = nL) (hst : st0 = As.reverse ++ rest) (hw : (rest.map fun v => v.category).sum ≤ 8) (hdg : decode cc pc = .ok (.invokestatic index, 3)) (hf : cells + mc ≤ R.cells ∧ slots + ms ≤ R.slots)
    (hS : va_S A0 H0 H locs) (hA : ∀ q, A1 q → A0 q)
    (kk : ∀ (v : Option Value) (H1 : Heap) (locs1 : List Loc), B v H1 → H.size ≤ H1.size → (∀ q : Nat, q < H.size → ¬ A1 q → H1[q]? = H[q]?) → va_S A0 H0 H1 locs1 → W p l e R s m args below meth c H1 locs1 (cells + mc) (slots + ms) Q (F0 m (pc + 3) ls (v.toList ++ rest))) : W p l e R s m args below meth c H locs cells slots Q (F0 m pc ls st0) :=
  g_call (B := B) (va_runS (As := As) (rest := rest) S hM (va_cwS n S.2.2.2.2 (cws_app (ws := [.methodLink own index y, .static y, .initialized y.cls]) (fun w h => by simp at h; rcases h with h | h | h <;> subst h <;> assumption) (cws_good w1)) rfl hR.1 hR.2.1 hd hR.2.2) ⟨g_blind hbl, fun U hU hW => ⟨rfl, hk U hU hW, by rw [hU]; exact hp⟩⟩ rfl hn hsz hst (by show 2 * 0 + _ ≤ 8; omega) hdg hf) hS hA kk
theorem c_i (S : CallFix p m c cc nL s args tb own) (hM : Met l y (cws y bytes maxL none) rm (va_Pc (.ref b :: As) (fun U => KK U ∧ Pw U.heap)) (Qg B A1) mc ms A1)
    (w1 : Cond.code y bytes maxL none ∈ tb) (w2 : Cond.methodLink own index y ∈ tb) (w3 : Cond.instanceMethod y ∈ tb) (w5 : Cond.initialized y.cls ∈ tb) (hy1 : y.name = "<init>")
    (hd : y.cls ≠ "java/lang/invoke/MethodHandle" ∧ y.cls ≠ "java/lang/invoke/VarHandle" ∧ (parseMethodDescriptor y.desc).map (fun d => d.parameters.length) = some n) (hn : As.length = n)
    (hR : rm.cells = mc ∧ rm.slots = ms ∧ rm.frames + 1 ≤ R.frames ∧ 8 + (maxL + 11) + rm.locals ≤ R.locals) (hbl : Blind KK)
    (hk : ∀ U : State, U.heap = H → s.WarmedH U.vm → KK U) (hp : Pw H)
    (hsz : ls.size = nL) (hst : st0 = As.reverse ++ .ref b :: rest) (hw : (rest.map fun v => v.category).sum ≤ 8) (hdg : decode cc pc = .ok (.invokespecial index, 3)) (hf : cells + mc ≤ R.cells ∧ slots + ms ≤ R.slots)
    (hS : va_S A0 H0 H locs) (hA : ∀ q, A1 q → A0 q)
    (kk : ∀ (v : Option Value) (H1 : Heap) (locs1 : List Loc), B v H1 → H.size ≤ H1.size → (∀ q : Nat, q < H.size → ¬ A1 q → H1[q]? = H[q]?) → va_S A0 H0 H1 locs1 → W p l e R s m args below meth c H1 locs1 (cells + mc) (slots + ms) Q (F0 m (pc + 3) ls (v.toList ++ rest))) : W p l e R s m args below meth c H locs cells slots Q (F0 m pc ls st0) :=
  g_call (B := B) (va_runI (As := As) (rest := rest) S hM (cwI n S.2.2.2.2 (cws_good w1) rfl hR.1 hR.2.1 (S.2.2.2.2 _ w5) (S.2.2.2.2 _ w2) (S.2.2.2.2 _ w3) hy1 hd hR.2.2) ⟨g_blind hbl, fun U hU hW => ⟨rfl, hk U hU hW, by rw [hU]; exact hp⟩⟩ rfl hn hsz hst (by show 2 * 0 + _ ≤ 8; omega) hdg hf) hS hA kk
end B11
/-- a method, from its entry -/
theorem m_start {l : Launch} {y : MethodName} {cc : ByteArray} {maxL mc ms : Nat} {ret : Option FieldType} {rm : Room} {av : List Value} {KK : State → Prop} {Pw : Heap → Prop} {B : Option Value → Heap → Prop} {A : Nat → Prop} (hy : plainName y.cls = true) (hn : (lg_sl av).length ≤ maxL)
    (body : ∀ (p : Program) (e : Env) (s : State) (m : MethodId) (below : List Frame) (meth : Method) (c : Code) (ls : Array Slot), CallFix p m c cc maxL s av.toArray tb y.cls → meth.sig.returnType = ret → meth.locks = false → meth.name = y.name → KK s → Pw s.heap → va_S A s.heap s.heap [] → lv_has ls maxL (lv_args 0 av) →
      W p l e rm s m av.toArray below meth c s.heap [] 0 0 (MQ below (Qg B A) av.toArray s mc ms A) (F0 m 0 ls [])) : Met l y (cws y cc maxL ret) rm (va_Pc av (fun U => KK U ∧ Pw U.heap)) (Qg B A) mc ms A := by
  refine Met.ofW (cc := cc) (maxL := maxL) (ret := ret) hy rfl ?_
  intro p e s m args below meth c s₁ B hml hv
  obtain ⟨rfl, hK, hP⟩ := hv
  have hts := atoms_spec (ws := cws y cc maxL ret) B.pre
  have hl := lv_entry av (n := maxL) hn
  rw [lg_entry_eq]
  exact body p e s m below meth c _ ⟨B.exec, B.bytes, hml, findClass_of_methodNamed B.named, fun w h => hts w (List.mem_cons_of_mem _ h)⟩ B.returns B.notSynchronized (name_of_methodNamed B.named B.method).1 hK hP va_S.rf hl
end
section
/-! the reference: its object, its rows -/
def eM (R : Nat → Nat) (I : Nat → Int32) : List Value := [.ref (R 0), .int (I 1), .int (I 2), .int (I 3), .int (I 4), .int (I 5), .int (I 6), .int (I 7), .int (I 8), .int (I 9), .int (I 10), .ref (R 11), .ref (R 12), .ref (R 13), .ref (R 14), .ref (R 15), .ref (R 16), .ref (R 17), .ref (R 18), .ref (R 19), .ref (R 20), .ref (R 21), .ref (R 22), .ref (R 23), .ref (R 24), .ref (R 25), .ref (R 26), .ref (R 27), .ref (R 28), .ref (R 29), .ref (R 30), .ref (R 31), .ref (R 32), .ref (R 33), .ref (R 34), .ref (R 35), .ref (R 36), .ref (R 37), .ref (R 38), .ref (R 39), .ref (R 40), .ref (R 41), .int (I 42)]
def mAr (k : Nat) : Bool := k == 0 || (decide (11 ≤ k) && decide (k ≤ 41))
def mN (k : Nat) : Nat := if k = 0 then 7 else if k ≤ 26 then 8 else if k ≤ 36 then 200 else if k ≤ 40 then 400 else 200
def mC (k : Nat) : Nat := if k = 36 then 7 else if k = 40 then 7 else 6
def mTi (k : Nat) : Bool := (decide (2 ≤ k) && decide (k ≤ 7)) || k == 42
def mTa (k : Nat) : Bool := k == 17 || k == 30 || k == 31 || k == 37 || k == 41
def Mw (dC : Nat → ClassId) (dI : Nat → Nat → Nat) (h0 : Nat) (R : Nat → Nat) (A : Nat → Prop) (V : Nat → Int32) (G : Nat → Nat → Int32) (H : Heap) : Prop :=
  (A h0 ∧ (∀ k, mAr k = true → A (R k)) ∧ (∀ k j, mAr k = true → mAr j = true → R k = R j → k = j)) ∧
  (∃ I : Nat → Int32, oat dC dI h0 5 (eM R I) H ∧ ∀ k, mTi k = true → I k = V k) ∧
  (∀ k, mAr k = true → ∃ f : Nat → Int32, iat dC dI (R k) (mC k) (mN k) f H ∧ (mTa k = true → f = G k))
theorem mC_or (k : Nat) : mC k = 6 ∨ mC k = 7 := by
  unfold mC
  split
  · exact Or.inr rfl
  · split
    · exact Or.inr rfl
    · exact Or.inl rfl
theorem Mw.kept {dC : Nat → ClassId} {dI : Nat → Nat → Nat} {h0 : Nat} {R : Nat → Nat} {A : Nat → Prop} {V : Nat → Int32} {G : Nat → Nat → Int32} {H H1 : Heap} (h : Mw dC dI h0 R A V G H) (hq : ∀ q, A q → H1[q]? = H[q]?) : Mw dC dI h0 R A V G H1 := by
  obtain ⟨h1, ⟨I, hI, hV⟩, h3⟩ := h
  refine ⟨h1, ⟨I, va_at.kept hI (hq _ h1.1), hV⟩, fun k hk => ?_⟩
  obtain ⟨f, hf, hg⟩ := h3 k hk
  exact ⟨f, va_at.kept hf (hq _ (h1.2.1 k hk)), hg⟩
section B20
variable {p : Program} {l : Launch} {e : Env} {Rm : Room} {s : State} {m : MethodId} {args : Array Value} {below : List Frame} {meth : Method} {c : Code} {H : Heap} {locs : List Loc} {cells slots : Nat} {Q : State → Prop}
variable {cc : ByteArray} {pc nL : Nat} {ls : Array Slot} {rest : List Value} {dC : Nat → ClassId} {dI : Nat → Nat → Nat} {A : Nat → Prop} {a h0 : Nat} {H0 : Heap} {R : Nat → Nat} {V : Nat → Int32} {G : Nat → Nat → Int32}
theorem mw_gi {index : Nat} (S : CallFix p m c cc nL s args tb RX4) (hK : Kt dC dI s) (hW : Mw dC dI h0 R A V G H) (k : Nat) (hk : k < 43) (hv : ∀ I : Nat → Int32, (eM R I)[k]? = some (.int (I k))) (hl : Cond.fieldLink RX4 index "FrontDoorModel" (TX4 k).2.1 (TX4 k).2.2.1 ∈ tb) (hn : (TX4 k).1 = "FrontDoorModel") (hdg : decode cc pc = .ok (.getfield index, 3))
    (kk : ∀ x : Int32, (mTi k = true → x = V k) → W p l e Rm s m args below meth c H locs cells slots Q (F0 m (pc + 3) ls (.int x :: rest))) : W p l e Rm s m args below meth c H locs cells slots Q (F0 m pc ls (.ref h0 :: rest)) := by
  obtain ⟨hx, hb, hml, hown, hts⟩ := S
  obtain ⟨h1, ⟨I, hI, hV⟩, h3⟩ := hW
  exact x_get (C := RX4) (T := TX4) (N := 43) (ci := 5) hx hb hts inX4 hown hK hI rfl k hk (hts _ hl) (fun x h => by rw [hn] at h; exact h) (hv I) hdg (kk _ (hV k))
theorem mw_ga {index : Nat} (S : CallFix p m c cc nL s args tb RX4) (hK : Kt dC dI s) (hW : Mw dC dI h0 R A V G H) (k : Nat) (hk : k < 43) (hv : ∀ I : Nat → Int32, (eM R I)[k]? = some (.ref (R k))) (hl : Cond.fieldLink RX4 index "FrontDoorModel" (TX4 k).2.1 (TX4 k).2.2.1 ∈ tb) (hn : (TX4 k).1 = "FrontDoorModel") (hdg : decode cc pc = .ok (.getfield index, 3))
    (kk : W p l e Rm s m args below meth c H locs cells slots Q (F0 m (pc + 3) ls (.ref (R k) :: rest))) : W p l e Rm s m args below meth c H locs cells slots Q (F0 m pc ls (.ref h0 :: rest)) := by
  obtain ⟨hx, hb, hml, hown, hts⟩ := S
  obtain ⟨h1, ⟨I, hI, hV⟩, h3⟩ := hW
  exact x_get (C := RX4) (T := TX4) (N := 43) (ci := 5) hx hb hts inX4 hown hK hI rfl k hk (hts _ hl) (fun x h => by rw [hn] at h; exact h) (hv I) hdg kk
theorem mw_pi {index : Nat} {x : Int32} (S : CallFix p m c cc nL s args tb RX4) (hK : Kt dC dI s) (hW : Mw dC dI h0 R A V G H) (hS : va_S A H0 H locs) (k : Nat) (hk : k < 43) (hv : ∀ I : Nat → Int32, (eM R I).set k (.int x) = eM R (va_up I k x)) (hl : Cond.fieldLink RX4 index "FrontDoorModel" (TX4 k).2.1 (TX4 k).2.2.1 ∈ tb) (hn : (TX4 k).1 = "FrontDoorModel") (hf : (TX4 k).2.2.2 = false) (hd : parseFieldDescriptor (TX4 k).2.2.1 = some .int) (hdg : decode cc pc = .ok (.putfield index, 3))
    (kk : ∀ (H1 : Heap) (locs1 : List Loc) (V1 : Nat → Int32), V1 k = x → (∀ j, j ≠ k → V1 j = V j) → Mw dC dI h0 R A V1 G H1 → va_S A H0 H1 locs1 → W p l e Rm s m args below meth c H1 locs1 cells slots Q (F0 m (pc + 3) ls rest)) : W p l e Rm s m args below meth c H locs cells slots Q (F0 m pc ls (.int x :: .ref h0 :: rest)) := by
  obtain ⟨hx, hb, hml, hown, hts⟩ := S
  obtain ⟨h1, ⟨I, hI, hV⟩, h3⟩ := hW
  refine x_put (C := RX4) (T := TX4) (N := 43) (ci := 5) (ty := .int) hx hb hts inX4 tyX4 tyX4_ok nmX4 hown hK hS h1.1 hI rfl k hk (hts _ hl) (fun x h => by rw [hn] at h; exact h) hf hd rfl rfl (by show k < (eM R I).length; exact hk) hdg (fun H1 locs1 ho hO hS1 => ?_)
  rw [hv I] at ho
  refine kk H1 locs1 (va_up V k x) (if_pos rfl) (fun j hj => if_neg hj) ⟨h1, ⟨_, ho, fun j hj => ?_⟩, fun j hj => ?_⟩ hS1
  · by_cases e : j = k
    · subst e; show va_up I j x j = va_up V j x j; unfold va_up; rw [if_pos rfl, if_pos rfl]
    · show va_up I k x j = va_up V k x j; unfold va_up; rw [if_neg e, if_neg e]; exact hV j hj
  · obtain ⟨f, hf, hg⟩ := h3 j hj
    refine ⟨f, hO.iat hf ?_, hg⟩
    exact cls_ne hK.inj (iat_cls hf) (oat_cls hI) (by rcases mC_or j with h | h <;> rw [h] <;> decide) (by decide) (by rcases mC_or j with h | h <;> rw [h] <;> decide)
theorem mw_pj {index : Nat} {x : Int32} (S : CallFix p m c cc nL s args tb RX4) (hK : Kt dC dI s) (hW : Mw dC dI h0 R A V G H) (hS : va_S A H0 H locs) (k : Nat) (hk : k < 43) (ht : mTi k = false) (hv : ∀ I : Nat → Int32, (eM R I).set k (.int x) = eM R (va_up I k x)) (hl : Cond.fieldLink RX4 index "FrontDoorModel" (TX4 k).2.1 (TX4 k).2.2.1 ∈ tb) (hn : (TX4 k).1 = "FrontDoorModel") (hf : (TX4 k).2.2.2 = false) (hd : parseFieldDescriptor (TX4 k).2.2.1 = some .int) (hdg : decode cc pc = .ok (.putfield index, 3))
    (kk : ∀ (H1 : Heap) (locs1 : List Loc), Mw dC dI h0 R A V G H1 → va_S A H0 H1 locs1 → W p l e Rm s m args below meth c H1 locs1 cells slots Q (F0 m (pc + 3) ls rest)) : W p l e Rm s m args below meth c H locs cells slots Q (F0 m pc ls (.int x :: .ref h0 :: rest)) := by
  refine mw_pi S hK hW hS k hk hv hl hn hf hd hdg (fun H1 locs1 V1 e1 e2 hW1 hS1 => kk H1 locs1 ?_ hS1)
  obtain ⟨h1, ⟨I, hI, hV⟩, h3⟩ := hW1
  refine ⟨h1, ⟨I, hI, fun j hj => ?_⟩, h3⟩
  rw [hV j hj]
  exact e2 j (fun e => by subst e; rw [ht] at hj; cases hj)
theorem mw_ld (S : CallFix p m c cc nL s args tb RX4) (hK : Kt dC dI s) (hW : Mw dC dI h0 R A V G H) (k : Nat) (hk : mAr k = true) (h6 : mC k = 6) {i : Int32} (hin : vp_in i (mN k)) (hdg : decode cc pc = .ok (.iaload, 1))
    (kk : ∀ x : Int32, (mTa k = true → x = G k i.toNatClampNeg) → W p l e Rm s m args below meth c H locs cells slots Q (F0 m (pc + 1) ls (.int x :: rest))) : W p l e Rm s m args below meth c H locs cells slots Q (F0 m pc ls (.int i :: .ref (R k) :: rest)) := by
  obtain ⟨f, hf, hg⟩ := hW.2.2 k hk
  rw [h6] at hf
  exact x_iald S.1 S.2.1 hK hf hin hdg (kk _ (fun h => by rw [hg h]))
theorem mw_lz (S : CallFix p m c cc nL s args tb RX4) (hK : Kt dC dI s) (hW : Mw dC dI h0 R A V G H) (k : Nat) (hk : mAr k = true) (h7 : mC k = 7) {i : Int32} (hin : vp_in i (mN k)) (hdg : decode cc pc = .ok (.baload, 1))
    (kk : ∀ x : Int32, W p l e Rm s m args below meth c H locs cells slots Q (F0 m (pc + 1) ls (.int x :: rest))) : W p l e Rm s m args below meth c H locs cells slots Q (F0 m pc ls (.int i :: .ref (R k) :: rest)) := by
  obtain ⟨f, hf, hg⟩ := hW.2.2 k hk
  rw [h7] at hf
  exact x_zald S.1 S.2.1 hK hf hin hdg (kk _)
theorem mw_up (hK : Kt dC dI s) (hW : Mw dC dI h0 R A V G H) {H1 : Heap} {k : Nat} (hk : mAr k = true) {f : Nat → Int32} (ho : iat dC dI (R k) (mC k) (mN k) f H1) (hO : One (R k) H H1) {G1 : Nat → Nat → Int32} (e1 : mTa k = true → f = G1 k) (e2 : ∀ j, j ≠ k → G1 j = G j) : Mw dC dI h0 R A V G1 H1 := by
  obtain ⟨h1, ⟨I, hI, hV⟩, h3⟩ := hW
  obtain ⟨f0, hf0, -⟩ := h3 k hk
  refine ⟨h1, ⟨I, hO.oat hI ?_, hV⟩, fun j hj => ?_⟩
  · exact cls_ne hK.inj (oat_cls hI) (iat_cls hf0) (by decide) (by rcases mC_or k with h | h <;> rw [h] <;> decide) (by rcases mC_or k with h | h <;> rw [h] <;> decide)
  · by_cases e : j = k
    · subst e; exact ⟨f, ho, e1⟩
    · obtain ⟨g, hg1, hg2⟩ := h3 j hj
      exact ⟨g, hO.iat hg1 (fun q => e (h1.2.2 j k hj hk q)), fun h => by rw [e2 j e]; exact hg2 h⟩
theorem mw_st {x : Int32} (S : CallFix p m c cc nL s args tb RX4) (hK : Kt dC dI s) (hW : Mw dC dI h0 R A V G H) (hS : va_S A H0 H locs) (k : Nat) (hk : mAr k = true) (h6 : mC k = 6) {i : Int32} (hin : vp_in i (mN k)) (hdg : decode cc pc = .ok (.iastore, 1))
    (kk : ∀ (H1 : Heap) (locs1 : List Loc) (G1 : Nat → Nat → Int32), G1 k = upd (G k) i.toNatClampNeg x → (∀ j, j ≠ k → G1 j = G j) → Mw dC dI h0 R A V G1 H1 → va_S A H0 H1 locs1 → W p l e Rm s m args below meth c H1 locs1 cells slots Q (F0 m (pc + 1) ls rest)) : W p l e Rm s m args below meth c H locs cells slots Q (F0 m pc ls (.int x :: .int i :: .ref (R k) :: rest)) := by
  obtain ⟨f, hf, hg⟩ := hW.2.2 k hk
  have hf6 := hf
  rw [h6] at hf6
  refine x_iast S.1 S.2.1 hK hS (hW.1.2.1 k hk) hf6 hin hdg (fun H1 locs1 ho hO hS1 => ?_)
  rw [← h6] at ho
  refine kk H1 locs1 (va_up G k (upd (G k) i.toNatClampNeg x)) (if_pos rfl) (fun j hj => if_neg hj) (mw_up hK hW hk ho hO (fun h => ?_) (fun j hj => if_neg hj)) hS1
  rw [hg h]
  exact (if_pos rfl).symm
theorem mw_su {x : Int32} (S : CallFix p m c cc nL s args tb RX4) (hK : Kt dC dI s) (hW : Mw dC dI h0 R A V G H) (hS : va_S A H0 H locs) (k : Nat) (hk : mAr k = true) (h6 : mC k = 6) (ht : mTa k = false) {i : Int32} (hin : vp_in i (mN k)) (hdg : decode cc pc = .ok (.iastore, 1))
    (kk : ∀ (H1 : Heap) (locs1 : List Loc), Mw dC dI h0 R A V G H1 → va_S A H0 H1 locs1 → W p l e Rm s m args below meth c H1 locs1 cells slots Q (F0 m (pc + 1) ls rest)) : W p l e Rm s m args below meth c H locs cells slots Q (F0 m pc ls (.int x :: .int i :: .ref (R k) :: rest)) := by
  obtain ⟨f, hf, hg⟩ := hW.2.2 k hk
  have hf6 := hf
  rw [h6] at hf6
  refine x_iast S.1 S.2.1 hK hS (hW.1.2.1 k hk) hf6 hin hdg (fun H1 locs1 ho hO hS1 => ?_)
  rw [← h6] at ho
  exact kk H1 locs1 (mw_up hK hW hk ho hO (fun h => by rw [ht] at h; cases h) (fun j hj => rfl)) hS1
theorem mw_sz {x : Int32} (S : CallFix p m c cc nL s args tb RX4) (hK : Kt dC dI s) (hW : Mw dC dI h0 R A V G H) (hS : va_S A H0 H locs) (k : Nat) (hk : mAr k = true) (h7 : mC k = 7) (ht : mTa k = false) {i : Int32} (hin : vp_in i (mN k)) (hdg : decode cc pc = .ok (.bastore, 1))
    (kk : ∀ (H1 : Heap) (locs1 : List Loc), Mw dC dI h0 R A V G H1 → va_S A H0 H1 locs1 → W p l e Rm s m args below meth c H1 locs1 cells slots Q (F0 m (pc + 1) ls rest)) : W p l e Rm s m args below meth c H locs cells slots Q (F0 m pc ls (.int x :: .int i :: .ref (R k) :: rest)) := by
  obtain ⟨f, hf, hg⟩ := hW.2.2 k hk
  have hf7 := hf
  rw [h7] at hf7
  refine x_zast S.1 S.2.1 hK hS (hW.1.2.1 k hk) hf7 hin hdg (fun H1 locs1 ho hO hS1 => ?_)
  rw [← h7] at ho
  exact kk H1 locs1 (mw_up hK hW hk ho hO (fun h => by rw [ht] at h; cases h) (fun j hj => rfl)) hS1
theorem M_g0 (S : CallFix p m c cc nL s args tb RX4) (hK : Kt dC dI s) (hW : Mw dC dI h0 R A V G H) (hdg : decode cc pc = .ok (.getfield 7, 3)) (kk : W p l e Rm s m args below meth c H locs cells slots Q (F0 m (pc + 3) ls (.ref (R 0) :: rest))) : W p l e Rm s m args below meth c H locs cells slots Q (F0 m pc ls (.ref h0 :: rest)) := mw_ga S hK hW 0 (by decide) (fun _ => rfl) iw_646 rfl hdg kk
theorem M_g1 (S : CallFix p m c cc nL s args tb RX4) (hK : Kt dC dI s) (hW : Mw dC dI h0 R A V G H) (hdg : decode cc pc = .ok (.getfield 163, 3)) (kk : ∀ x : Int32, W p l e Rm s m args below meth c H locs cells slots Q (F0 m (pc + 3) ls (.int x :: rest))) : W p l e Rm s m args below meth c H locs cells slots Q (F0 m pc ls (.ref h0 :: rest)) := mw_gi S hK hW 1 (by decide) (fun _ => rfl) iw_647 rfl hdg (fun x h => kk x)
theorem M_p1 {x : Int32} (S : CallFix p m c cc nL s args tb RX4) (hK : Kt dC dI s) (hW : Mw dC dI h0 R A V G H) (hS : va_S A H0 H locs) (hdg : decode cc pc = .ok (.putfield 163, 3)) (kk : ∀ (H1 : Heap) (locs1 : List Loc), Mw dC dI h0 R A V G H1 → va_S A H0 H1 locs1 → W p l e Rm s m args below meth c H1 locs1 cells slots Q (F0 m (pc + 3) ls rest)) : W p l e Rm s m args below meth c H locs cells slots Q (F0 m pc ls (.int x :: .ref h0 :: rest)) := mw_pj S hK hW hS 1 (by decide) rfl (fun _ => rfl) iw_647 rfl rfl (by decide +kernel) hdg kk
theorem M_g2 (S : CallFix p m c cc nL s args tb RX4) (hK : Kt dC dI s) (hW : Mw dC dI h0 R A V G H) (hdg : decode cc pc = .ok (.getfield 114, 3)) (kk : ∀ x : Int32, x = V 2 → W p l e Rm s m args below meth c H locs cells slots Q (F0 m (pc + 3) ls (.int x :: rest))) : W p l e Rm s m args below meth c H locs cells slots Q (F0 m pc ls (.ref h0 :: rest)) := mw_gi S hK hW 2 (by decide) (fun _ => rfl) iw_648 rfl hdg (fun x h => kk x (h rfl))
theorem M_p2 {x : Int32} (S : CallFix p m c cc nL s args tb RX4) (hK : Kt dC dI s) (hW : Mw dC dI h0 R A V G H) (hS : va_S A H0 H locs) (hdg : decode cc pc = .ok (.putfield 114, 3)) (kk : ∀ (H1 : Heap) (locs1 : List Loc) (V1 : Nat → Int32), V1 2 = x → (∀ j, j ≠ 2 → V1 j = V j) → Mw dC dI h0 R A V1 G H1 → va_S A H0 H1 locs1 → W p l e Rm s m args below meth c H1 locs1 cells slots Q (F0 m (pc + 3) ls rest)) : W p l e Rm s m args below meth c H locs cells slots Q (F0 m pc ls (.int x :: .ref h0 :: rest)) := mw_pi S hK hW hS 2 (by decide) (fun _ => rfl) iw_648 rfl rfl (by decide +kernel) hdg kk
theorem M_g3 (S : CallFix p m c cc nL s args tb RX4) (hK : Kt dC dI s) (hW : Mw dC dI h0 R A V G H) (hdg : decode cc pc = .ok (.getfield 121, 3)) (kk : ∀ x : Int32, x = V 3 → W p l e Rm s m args below meth c H locs cells slots Q (F0 m (pc + 3) ls (.int x :: rest))) : W p l e Rm s m args below meth c H locs cells slots Q (F0 m pc ls (.ref h0 :: rest)) := mw_gi S hK hW 3 (by decide) (fun _ => rfl) iw_649 rfl hdg (fun x h => kk x (h rfl))
theorem M_p3 {x : Int32} (S : CallFix p m c cc nL s args tb RX4) (hK : Kt dC dI s) (hW : Mw dC dI h0 R A V G H) (hS : va_S A H0 H locs) (hdg : decode cc pc = .ok (.putfield 121, 3)) (kk : ∀ (H1 : Heap) (locs1 : List Loc) (V1 : Nat → Int32), V1 3 = x → (∀ j, j ≠ 3 → V1 j = V j) → Mw dC dI h0 R A V1 G H1 → va_S A H0 H1 locs1 → W p l e Rm s m args below meth c H1 locs1 cells slots Q (F0 m (pc + 3) ls rest)) : W p l e Rm s m args below meth c H locs cells slots Q (F0 m pc ls (.int x :: .ref h0 :: rest)) := mw_pi S hK hW hS 3 (by decide) (fun _ => rfl) iw_649 rfl rfl (by decide +kernel) hdg kk
theorem M_g4 (S : CallFix p m c cc nL s args tb RX4) (hK : Kt dC dI s) (hW : Mw dC dI h0 R A V G H) (hdg : decode cc pc = .ok (.getfield 136, 3)) (kk : ∀ x : Int32, x = V 4 → W p l e Rm s m args below meth c H locs cells slots Q (F0 m (pc + 3) ls (.int x :: rest))) : W p l e Rm s m args below meth c H locs cells slots Q (F0 m pc ls (.ref h0 :: rest)) := mw_gi S hK hW 4 (by decide) (fun _ => rfl) iw_650 rfl hdg (fun x h => kk x (h rfl))
theorem M_p4 {x : Int32} (S : CallFix p m c cc nL s args tb RX4) (hK : Kt dC dI s) (hW : Mw dC dI h0 R A V G H) (hS : va_S A H0 H locs) (hdg : decode cc pc = .ok (.putfield 136, 3)) (kk : ∀ (H1 : Heap) (locs1 : List Loc) (V1 : Nat → Int32), V1 4 = x → (∀ j, j ≠ 4 → V1 j = V j) → Mw dC dI h0 R A V1 G H1 → va_S A H0 H1 locs1 → W p l e Rm s m args below meth c H1 locs1 cells slots Q (F0 m (pc + 3) ls rest)) : W p l e Rm s m args below meth c H locs cells slots Q (F0 m pc ls (.int x :: .ref h0 :: rest)) := mw_pi S hK hW hS 4 (by decide) (fun _ => rfl) iw_650 rfl rfl (by decide +kernel) hdg kk
theorem M_g5 (S : CallFix p m c cc nL s args tb RX4) (hK : Kt dC dI s) (hW : Mw dC dI h0 R A V G H) (hdg : decode cc pc = .ok (.getfield 13, 3)) (kk : ∀ x : Int32, x = V 5 → W p l e Rm s m args below meth c H locs cells slots Q (F0 m (pc + 3) ls (.int x :: rest))) : W p l e Rm s m args below meth c H locs cells slots Q (F0 m pc ls (.ref h0 :: rest)) := mw_gi S hK hW 5 (by decide) (fun _ => rfl) iw_651 rfl hdg (fun x h => kk x (h rfl))
theorem M_p5 {x : Int32} (S : CallFix p m c cc nL s args tb RX4) (hK : Kt dC dI s) (hW : Mw dC dI h0 R A V G H) (hS : va_S A H0 H locs) (hdg : decode cc pc = .ok (.putfield 13, 3)) (kk : ∀ (H1 : Heap) (locs1 : List Loc) (V1 : Nat → Int32), V1 5 = x → (∀ j, j ≠ 5 → V1 j = V j) → Mw dC dI h0 R A V1 G H1 → va_S A H0 H1 locs1 → W p l e Rm s m args below meth c H1 locs1 cells slots Q (F0 m (pc + 3) ls rest)) : W p l e Rm s m args below meth c H locs cells slots Q (F0 m pc ls (.int x :: .ref h0 :: rest)) := mw_pi S hK hW hS 5 (by decide) (fun _ => rfl) iw_651 rfl rfl (by decide +kernel) hdg kk
theorem M_g6 (S : CallFix p m c cc nL s args tb RX4) (hK : Kt dC dI s) (hW : Mw dC dI h0 R A V G H) (hdg : decode cc pc = .ok (.getfield 17, 3)) (kk : ∀ x : Int32, x = V 6 → W p l e Rm s m args below meth c H locs cells slots Q (F0 m (pc + 3) ls (.int x :: rest))) : W p l e Rm s m args below meth c H locs cells slots Q (F0 m pc ls (.ref h0 :: rest)) := mw_gi S hK hW 6 (by decide) (fun _ => rfl) iw_652 rfl hdg (fun x h => kk x (h rfl))
theorem M_p6 {x : Int32} (S : CallFix p m c cc nL s args tb RX4) (hK : Kt dC dI s) (hW : Mw dC dI h0 R A V G H) (hS : va_S A H0 H locs) (hdg : decode cc pc = .ok (.putfield 17, 3)) (kk : ∀ (H1 : Heap) (locs1 : List Loc) (V1 : Nat → Int32), V1 6 = x → (∀ j, j ≠ 6 → V1 j = V j) → Mw dC dI h0 R A V1 G H1 → va_S A H0 H1 locs1 → W p l e Rm s m args below meth c H1 locs1 cells slots Q (F0 m (pc + 3) ls rest)) : W p l e Rm s m args below meth c H locs cells slots Q (F0 m pc ls (.int x :: .ref h0 :: rest)) := mw_pi S hK hW hS 6 (by decide) (fun _ => rfl) iw_652 rfl rfl (by decide +kernel) hdg kk
theorem M_g7 (S : CallFix p m c cc nL s args tb RX4) (hK : Kt dC dI s) (hW : Mw dC dI h0 R A V G H) (hdg : decode cc pc = .ok (.getfield 139, 3)) (kk : ∀ x : Int32, x = V 7 → W p l e Rm s m args below meth c H locs cells slots Q (F0 m (pc + 3) ls (.int x :: rest))) : W p l e Rm s m args below meth c H locs cells slots Q (F0 m pc ls (.ref h0 :: rest)) := mw_gi S hK hW 7 (by decide) (fun _ => rfl) iw_653 rfl hdg (fun x h => kk x (h rfl))
theorem M_p7 {x : Int32} (S : CallFix p m c cc nL s args tb RX4) (hK : Kt dC dI s) (hW : Mw dC dI h0 R A V G H) (hS : va_S A H0 H locs) (hdg : decode cc pc = .ok (.putfield 139, 3)) (kk : ∀ (H1 : Heap) (locs1 : List Loc) (V1 : Nat → Int32), V1 7 = x → (∀ j, j ≠ 7 → V1 j = V j) → Mw dC dI h0 R A V1 G H1 → va_S A H0 H1 locs1 → W p l e Rm s m args below meth c H1 locs1 cells slots Q (F0 m (pc + 3) ls rest)) : W p l e Rm s m args below meth c H locs cells slots Q (F0 m pc ls (.int x :: .ref h0 :: rest)) := mw_pi S hK hW hS 7 (by decide) (fun _ => rfl) iw_653 rfl rfl (by decide +kernel) hdg kk
theorem M_g8 (S : CallFix p m c cc nL s args tb RX4) (hK : Kt dC dI s) (hW : Mw dC dI h0 R A V G H) (hdg : decode cc pc = .ok (.getfield 160, 3)) (kk : ∀ x : Int32, W p l e Rm s m args below meth c H locs cells slots Q (F0 m (pc + 3) ls (.int x :: rest))) : W p l e Rm s m args below meth c H locs cells slots Q (F0 m pc ls (.ref h0 :: rest)) := mw_gi S hK hW 8 (by decide) (fun _ => rfl) iw_654 rfl hdg (fun x h => kk x)
theorem M_p8 {x : Int32} (S : CallFix p m c cc nL s args tb RX4) (hK : Kt dC dI s) (hW : Mw dC dI h0 R A V G H) (hS : va_S A H0 H locs) (hdg : decode cc pc = .ok (.putfield 160, 3)) (kk : ∀ (H1 : Heap) (locs1 : List Loc), Mw dC dI h0 R A V G H1 → va_S A H0 H1 locs1 → W p l e Rm s m args below meth c H1 locs1 cells slots Q (F0 m (pc + 3) ls rest)) : W p l e Rm s m args below meth c H locs cells slots Q (F0 m pc ls (.int x :: .ref h0 :: rest)) := mw_pj S hK hW hS 8 (by decide) rfl (fun _ => rfl) iw_654 rfl rfl (by decide +kernel) hdg kk
theorem M_g9 (S : CallFix p m c cc nL s args tb RX4) (hK : Kt dC dI s) (hW : Mw dC dI h0 R A V G H) (hdg : decode cc pc = .ok (.getfield 206, 3)) (kk : ∀ x : Int32, W p l e Rm s m args below meth c H locs cells slots Q (F0 m (pc + 3) ls (.int x :: rest))) : W p l e Rm s m args below meth c H locs cells slots Q (F0 m pc ls (.ref h0 :: rest)) := mw_gi S hK hW 9 (by decide) (fun _ => rfl) iw_655 rfl hdg (fun x h => kk x)
theorem M_p9 {x : Int32} (S : CallFix p m c cc nL s args tb RX4) (hK : Kt dC dI s) (hW : Mw dC dI h0 R A V G H) (hS : va_S A H0 H locs) (hdg : decode cc pc = .ok (.putfield 206, 3)) (kk : ∀ (H1 : Heap) (locs1 : List Loc), Mw dC dI h0 R A V G H1 → va_S A H0 H1 locs1 → W p l e Rm s m args below meth c H1 locs1 cells slots Q (F0 m (pc + 3) ls rest)) : W p l e Rm s m args below meth c H locs cells slots Q (F0 m pc ls (.int x :: .ref h0 :: rest)) := mw_pj S hK hW hS 9 (by decide) rfl (fun _ => rfl) iw_655 rfl rfl (by decide +kernel) hdg kk
theorem M_g10 (S : CallFix p m c cc nL s args tb RX4) (hK : Kt dC dI s) (hW : Mw dC dI h0 R A V G H) (hdg : decode cc pc = .ok (.getfield 209, 3)) (kk : ∀ x : Int32, W p l e Rm s m args below meth c H locs cells slots Q (F0 m (pc + 3) ls (.int x :: rest))) : W p l e Rm s m args below meth c H locs cells slots Q (F0 m pc ls (.ref h0 :: rest)) := mw_gi S hK hW 10 (by decide) (fun _ => rfl) iw_656 rfl hdg (fun x h => kk x)
theorem M_p10 {x : Int32} (S : CallFix p m c cc nL s args tb RX4) (hK : Kt dC dI s) (hW : Mw dC dI h0 R A V G H) (hS : va_S A H0 H locs) (hdg : decode cc pc = .ok (.putfield 209, 3)) (kk : ∀ (H1 : Heap) (locs1 : List Loc), Mw dC dI h0 R A V G H1 → va_S A H0 H1 locs1 → W p l e Rm s m args below meth c H1 locs1 cells slots Q (F0 m (pc + 3) ls rest)) : W p l e Rm s m args below meth c H locs cells slots Q (F0 m pc ls (.int x :: .ref h0 :: rest)) := mw_pj S hK hW hS 10 (by decide) rfl (fun _ => rfl) iw_656 rfl rfl (by decide +kernel) hdg kk
theorem M_g11 (S : CallFix p m c cc nL s args tb RX4) (hK : Kt dC dI s) (hW : Mw dC dI h0 R A V G H) (hdg : decode cc pc = .ok (.getfield 20, 3)) (kk : W p l e Rm s m args below meth c H locs cells slots Q (F0 m (pc + 3) ls (.ref (R 11) :: rest))) : W p l e Rm s m args below meth c H locs cells slots Q (F0 m pc ls (.ref h0 :: rest)) := mw_ga S hK hW 11 (by decide) (fun _ => rfl) iw_657 rfl hdg kk
theorem M_g12 (S : CallFix p m c cc nL s args tb RX4) (hK : Kt dC dI s) (hW : Mw dC dI h0 R A V G H) (hdg : decode cc pc = .ok (.getfield 23, 3)) (kk : W p l e Rm s m args below meth c H locs cells slots Q (F0 m (pc + 3) ls (.ref (R 12) :: rest))) : W p l e Rm s m args below meth c H locs cells slots Q (F0 m pc ls (.ref h0 :: rest)) := mw_ga S hK hW 12 (by decide) (fun _ => rfl) iw_658 rfl hdg kk
theorem M_g13 (S : CallFix p m c cc nL s args tb RX4) (hK : Kt dC dI s) (hW : Mw dC dI h0 R A V G H) (hdg : decode cc pc = .ok (.getfield 26, 3)) (kk : W p l e Rm s m args below meth c H locs cells slots Q (F0 m (pc + 3) ls (.ref (R 13) :: rest))) : W p l e Rm s m args below meth c H locs cells slots Q (F0 m pc ls (.ref h0 :: rest)) := mw_ga S hK hW 13 (by decide) (fun _ => rfl) iw_659 rfl hdg kk
theorem M_g14 (S : CallFix p m c cc nL s args tb RX4) (hK : Kt dC dI s) (hW : Mw dC dI h0 R A V G H) (hdg : decode cc pc = .ok (.getfield 29, 3)) (kk : W p l e Rm s m args below meth c H locs cells slots Q (F0 m (pc + 3) ls (.ref (R 14) :: rest))) : W p l e Rm s m args below meth c H locs cells slots Q (F0 m pc ls (.ref h0 :: rest)) := mw_ga S hK hW 14 (by decide) (fun _ => rfl) iw_660 rfl hdg kk
theorem M_g15 (S : CallFix p m c cc nL s args tb RX4) (hK : Kt dC dI s) (hW : Mw dC dI h0 R A V G H) (hdg : decode cc pc = .ok (.getfield 32, 3)) (kk : W p l e Rm s m args below meth c H locs cells slots Q (F0 m (pc + 3) ls (.ref (R 15) :: rest))) : W p l e Rm s m args below meth c H locs cells slots Q (F0 m pc ls (.ref h0 :: rest)) := mw_ga S hK hW 15 (by decide) (fun _ => rfl) iw_661 rfl hdg kk
theorem M_g16 (S : CallFix p m c cc nL s args tb RX4) (hK : Kt dC dI s) (hW : Mw dC dI h0 R A V G H) (hdg : decode cc pc = .ok (.getfield 35, 3)) (kk : W p l e Rm s m args below meth c H locs cells slots Q (F0 m (pc + 3) ls (.ref (R 16) :: rest))) : W p l e Rm s m args below meth c H locs cells slots Q (F0 m pc ls (.ref h0 :: rest)) := mw_ga S hK hW 16 (by decide) (fun _ => rfl) iw_662 rfl hdg kk
theorem M_g17 (S : CallFix p m c cc nL s args tb RX4) (hK : Kt dC dI s) (hW : Mw dC dI h0 R A V G H) (hdg : decode cc pc = .ok (.getfield 38, 3)) (kk : W p l e Rm s m args below meth c H locs cells slots Q (F0 m (pc + 3) ls (.ref (R 17) :: rest))) : W p l e Rm s m args below meth c H locs cells slots Q (F0 m pc ls (.ref h0 :: rest)) := mw_ga S hK hW 17 (by decide) (fun _ => rfl) iw_663 rfl hdg kk
theorem M_g18 (S : CallFix p m c cc nL s args tb RX4) (hK : Kt dC dI s) (hW : Mw dC dI h0 R A V G H) (hdg : decode cc pc = .ok (.getfield 41, 3)) (kk : W p l e Rm s m args below meth c H locs cells slots Q (F0 m (pc + 3) ls (.ref (R 18) :: rest))) : W p l e Rm s m args below meth c H locs cells slots Q (F0 m pc ls (.ref h0 :: rest)) := mw_ga S hK hW 18 (by decide) (fun _ => rfl) iw_664 rfl hdg kk
theorem M_g19 (S : CallFix p m c cc nL s args tb RX4) (hK : Kt dC dI s) (hW : Mw dC dI h0 R A V G H) (hdg : decode cc pc = .ok (.getfield 44, 3)) (kk : W p l e Rm s m args below meth c H locs cells slots Q (F0 m (pc + 3) ls (.ref (R 19) :: rest))) : W p l e Rm s m args below meth c H locs cells slots Q (F0 m pc ls (.ref h0 :: rest)) := mw_ga S hK hW 19 (by decide) (fun _ => rfl) iw_665 rfl hdg kk
theorem M_g20 (S : CallFix p m c cc nL s args tb RX4) (hK : Kt dC dI s) (hW : Mw dC dI h0 R A V G H) (hdg : decode cc pc = .ok (.getfield 47, 3)) (kk : W p l e Rm s m args below meth c H locs cells slots Q (F0 m (pc + 3) ls (.ref (R 20) :: rest))) : W p l e Rm s m args below meth c H locs cells slots Q (F0 m pc ls (.ref h0 :: rest)) := mw_ga S hK hW 20 (by decide) (fun _ => rfl) iw_666 rfl hdg kk
theorem M_g21 (S : CallFix p m c cc nL s args tb RX4) (hK : Kt dC dI s) (hW : Mw dC dI h0 R A V G H) (hdg : decode cc pc = .ok (.getfield 50, 3)) (kk : W p l e Rm s m args below meth c H locs cells slots Q (F0 m (pc + 3) ls (.ref (R 21) :: rest))) : W p l e Rm s m args below meth c H locs cells slots Q (F0 m pc ls (.ref h0 :: rest)) := mw_ga S hK hW 21 (by decide) (fun _ => rfl) iw_667 rfl hdg kk
theorem M_g22 (S : CallFix p m c cc nL s args tb RX4) (hK : Kt dC dI s) (hW : Mw dC dI h0 R A V G H) (hdg : decode cc pc = .ok (.getfield 53, 3)) (kk : W p l e Rm s m args below meth c H locs cells slots Q (F0 m (pc + 3) ls (.ref (R 22) :: rest))) : W p l e Rm s m args below meth c H locs cells slots Q (F0 m pc ls (.ref h0 :: rest)) := mw_ga S hK hW 22 (by decide) (fun _ => rfl) iw_668 rfl hdg kk
theorem M_g23 (S : CallFix p m c cc nL s args tb RX4) (hK : Kt dC dI s) (hW : Mw dC dI h0 R A V G H) (hdg : decode cc pc = .ok (.getfield 56, 3)) (kk : W p l e Rm s m args below meth c H locs cells slots Q (F0 m (pc + 3) ls (.ref (R 23) :: rest))) : W p l e Rm s m args below meth c H locs cells slots Q (F0 m pc ls (.ref h0 :: rest)) := mw_ga S hK hW 23 (by decide) (fun _ => rfl) iw_669 rfl hdg kk
theorem M_g24 (S : CallFix p m c cc nL s args tb RX4) (hK : Kt dC dI s) (hW : Mw dC dI h0 R A V G H) (hdg : decode cc pc = .ok (.getfield 59, 3)) (kk : W p l e Rm s m args below meth c H locs cells slots Q (F0 m (pc + 3) ls (.ref (R 24) :: rest))) : W p l e Rm s m args below meth c H locs cells slots Q (F0 m pc ls (.ref h0 :: rest)) := mw_ga S hK hW 24 (by decide) (fun _ => rfl) iw_670 rfl hdg kk
theorem M_g25 (S : CallFix p m c cc nL s args tb RX4) (hK : Kt dC dI s) (hW : Mw dC dI h0 R A V G H) (hdg : decode cc pc = .ok (.getfield 62, 3)) (kk : W p l e Rm s m args below meth c H locs cells slots Q (F0 m (pc + 3) ls (.ref (R 25) :: rest))) : W p l e Rm s m args below meth c H locs cells slots Q (F0 m pc ls (.ref h0 :: rest)) := mw_ga S hK hW 25 (by decide) (fun _ => rfl) iw_671 rfl hdg kk
theorem M_g26 (S : CallFix p m c cc nL s args tb RX4) (hK : Kt dC dI s) (hW : Mw dC dI h0 R A V G H) (hdg : decode cc pc = .ok (.getfield 65, 3)) (kk : W p l e Rm s m args below meth c H locs cells slots Q (F0 m (pc + 3) ls (.ref (R 26) :: rest))) : W p l e Rm s m args below meth c H locs cells slots Q (F0 m pc ls (.ref h0 :: rest)) := mw_ga S hK hW 26 (by decide) (fun _ => rfl) iw_672 rfl hdg kk
theorem M_g27 (S : CallFix p m c cc nL s args tb RX4) (hK : Kt dC dI s) (hW : Mw dC dI h0 R A V G H) (hdg : decode cc pc = .ok (.getfield 68, 3)) (kk : W p l e Rm s m args below meth c H locs cells slots Q (F0 m (pc + 3) ls (.ref (R 27) :: rest))) : W p l e Rm s m args below meth c H locs cells slots Q (F0 m pc ls (.ref h0 :: rest)) := mw_ga S hK hW 27 (by decide) (fun _ => rfl) iw_673 rfl hdg kk
theorem M_g28 (S : CallFix p m c cc nL s args tb RX4) (hK : Kt dC dI s) (hW : Mw dC dI h0 R A V G H) (hdg : decode cc pc = .ok (.getfield 71, 3)) (kk : W p l e Rm s m args below meth c H locs cells slots Q (F0 m (pc + 3) ls (.ref (R 28) :: rest))) : W p l e Rm s m args below meth c H locs cells slots Q (F0 m pc ls (.ref h0 :: rest)) := mw_ga S hK hW 28 (by decide) (fun _ => rfl) iw_674 rfl hdg kk
theorem M_g29 (S : CallFix p m c cc nL s args tb RX4) (hK : Kt dC dI s) (hW : Mw dC dI h0 R A V G H) (hdg : decode cc pc = .ok (.getfield 74, 3)) (kk : W p l e Rm s m args below meth c H locs cells slots Q (F0 m (pc + 3) ls (.ref (R 29) :: rest))) : W p l e Rm s m args below meth c H locs cells slots Q (F0 m pc ls (.ref h0 :: rest)) := mw_ga S hK hW 29 (by decide) (fun _ => rfl) iw_675 rfl hdg kk
theorem M_g30 (S : CallFix p m c cc nL s args tb RX4) (hK : Kt dC dI s) (hW : Mw dC dI h0 R A V G H) (hdg : decode cc pc = .ok (.getfield 77, 3)) (kk : W p l e Rm s m args below meth c H locs cells slots Q (F0 m (pc + 3) ls (.ref (R 30) :: rest))) : W p l e Rm s m args below meth c H locs cells slots Q (F0 m pc ls (.ref h0 :: rest)) := mw_ga S hK hW 30 (by decide) (fun _ => rfl) iw_676 rfl hdg kk
theorem M_g31 (S : CallFix p m c cc nL s args tb RX4) (hK : Kt dC dI s) (hW : Mw dC dI h0 R A V G H) (hdg : decode cc pc = .ok (.getfield 80, 3)) (kk : W p l e Rm s m args below meth c H locs cells slots Q (F0 m (pc + 3) ls (.ref (R 31) :: rest))) : W p l e Rm s m args below meth c H locs cells slots Q (F0 m pc ls (.ref h0 :: rest)) := mw_ga S hK hW 31 (by decide) (fun _ => rfl) iw_677 rfl hdg kk
theorem M_g32 (S : CallFix p m c cc nL s args tb RX4) (hK : Kt dC dI s) (hW : Mw dC dI h0 R A V G H) (hdg : decode cc pc = .ok (.getfield 83, 3)) (kk : W p l e Rm s m args below meth c H locs cells slots Q (F0 m (pc + 3) ls (.ref (R 32) :: rest))) : W p l e Rm s m args below meth c H locs cells slots Q (F0 m pc ls (.ref h0 :: rest)) := mw_ga S hK hW 32 (by decide) (fun _ => rfl) iw_678 rfl hdg kk
theorem M_g33 (S : CallFix p m c cc nL s args tb RX4) (hK : Kt dC dI s) (hW : Mw dC dI h0 R A V G H) (hdg : decode cc pc = .ok (.getfield 86, 3)) (kk : W p l e Rm s m args below meth c H locs cells slots Q (F0 m (pc + 3) ls (.ref (R 33) :: rest))) : W p l e Rm s m args below meth c H locs cells slots Q (F0 m pc ls (.ref h0 :: rest)) := mw_ga S hK hW 33 (by decide) (fun _ => rfl) iw_679 rfl hdg kk
theorem M_g34 (S : CallFix p m c cc nL s args tb RX4) (hK : Kt dC dI s) (hW : Mw dC dI h0 R A V G H) (hdg : decode cc pc = .ok (.getfield 89, 3)) (kk : W p l e Rm s m args below meth c H locs cells slots Q (F0 m (pc + 3) ls (.ref (R 34) :: rest))) : W p l e Rm s m args below meth c H locs cells slots Q (F0 m pc ls (.ref h0 :: rest)) := mw_ga S hK hW 34 (by decide) (fun _ => rfl) iw_680 rfl hdg kk
theorem M_g35 (S : CallFix p m c cc nL s args tb RX4) (hK : Kt dC dI s) (hW : Mw dC dI h0 R A V G H) (hdg : decode cc pc = .ok (.getfield 92, 3)) (kk : W p l e Rm s m args below meth c H locs cells slots Q (F0 m (pc + 3) ls (.ref (R 35) :: rest))) : W p l e Rm s m args below meth c H locs cells slots Q (F0 m pc ls (.ref h0 :: rest)) := mw_ga S hK hW 35 (by decide) (fun _ => rfl) iw_681 rfl hdg kk
theorem M_g36 (S : CallFix p m c cc nL s args tb RX4) (hK : Kt dC dI s) (hW : Mw dC dI h0 R A V G H) (hdg : decode cc pc = .ok (.getfield 95, 3)) (kk : W p l e Rm s m args below meth c H locs cells slots Q (F0 m (pc + 3) ls (.ref (R 36) :: rest))) : W p l e Rm s m args below meth c H locs cells slots Q (F0 m pc ls (.ref h0 :: rest)) := mw_ga S hK hW 36 (by decide) (fun _ => rfl) iw_682 rfl hdg kk
theorem M_g37 (S : CallFix p m c cc nL s args tb RX4) (hK : Kt dC dI s) (hW : Mw dC dI h0 R A V G H) (hdg : decode cc pc = .ok (.getfield 99, 3)) (kk : W p l e Rm s m args below meth c H locs cells slots Q (F0 m (pc + 3) ls (.ref (R 37) :: rest))) : W p l e Rm s m args below meth c H locs cells slots Q (F0 m pc ls (.ref h0 :: rest)) := mw_ga S hK hW 37 (by decide) (fun _ => rfl) iw_683 rfl hdg kk
theorem M_g38 (S : CallFix p m c cc nL s args tb RX4) (hK : Kt dC dI s) (hW : Mw dC dI h0 R A V G H) (hdg : decode cc pc = .ok (.getfield 102, 3)) (kk : W p l e Rm s m args below meth c H locs cells slots Q (F0 m (pc + 3) ls (.ref (R 38) :: rest))) : W p l e Rm s m args below meth c H locs cells slots Q (F0 m pc ls (.ref h0 :: rest)) := mw_ga S hK hW 38 (by decide) (fun _ => rfl) iw_684 rfl hdg kk
theorem M_g39 (S : CallFix p m c cc nL s args tb RX4) (hK : Kt dC dI s) (hW : Mw dC dI h0 R A V G H) (hdg : decode cc pc = .ok (.getfield 105, 3)) (kk : W p l e Rm s m args below meth c H locs cells slots Q (F0 m (pc + 3) ls (.ref (R 39) :: rest))) : W p l e Rm s m args below meth c H locs cells slots Q (F0 m pc ls (.ref h0 :: rest)) := mw_ga S hK hW 39 (by decide) (fun _ => rfl) iw_685 rfl hdg kk
theorem M_g40 (S : CallFix p m c cc nL s args tb RX4) (hK : Kt dC dI s) (hW : Mw dC dI h0 R A V G H) (hdg : decode cc pc = .ok (.getfield 108, 3)) (kk : W p l e Rm s m args below meth c H locs cells slots Q (F0 m (pc + 3) ls (.ref (R 40) :: rest))) : W p l e Rm s m args below meth c H locs cells slots Q (F0 m pc ls (.ref h0 :: rest)) := mw_ga S hK hW 40 (by decide) (fun _ => rfl) iw_686 rfl hdg kk
theorem M_g41 (S : CallFix p m c cc nL s args tb RX4) (hK : Kt dC dI s) (hW : Mw dC dI h0 R A V G H) (hdg : decode cc pc = .ok (.getfield 111, 3)) (kk : W p l e Rm s m args below meth c H locs cells slots Q (F0 m (pc + 3) ls (.ref (R 41) :: rest))) : W p l e Rm s m args below meth c H locs cells slots Q (F0 m pc ls (.ref h0 :: rest)) := mw_ga S hK hW 41 (by decide) (fun _ => rfl) iw_687 rfl hdg kk
theorem M_g42 (S : CallFix p m c cc nL s args tb RX4) (hK : Kt dC dI s) (hW : Mw dC dI h0 R A V G H) (hdg : decode cc pc = .ok (.getfield 212, 3)) (kk : ∀ x : Int32, x = V 42 → W p l e Rm s m args below meth c H locs cells slots Q (F0 m (pc + 3) ls (.int x :: rest))) : W p l e Rm s m args below meth c H locs cells slots Q (F0 m pc ls (.ref h0 :: rest)) := mw_gi S hK hW 42 (by decide) (fun _ => rfl) iw_688 rfl hdg (fun x h => kk x (h rfl))
theorem M_p42 {x : Int32} (S : CallFix p m c cc nL s args tb RX4) (hK : Kt dC dI s) (hW : Mw dC dI h0 R A V G H) (hS : va_S A H0 H locs) (hdg : decode cc pc = .ok (.putfield 212, 3)) (kk : ∀ (H1 : Heap) (locs1 : List Loc) (V1 : Nat → Int32), V1 42 = x → (∀ j, j ≠ 42 → V1 j = V j) → Mw dC dI h0 R A V1 G H1 → va_S A H0 H1 locs1 → W p l e Rm s m args below meth c H1 locs1 cells slots Q (F0 m (pc + 3) ls rest)) : W p l e Rm s m args below meth c H locs cells slots Q (F0 m pc ls (.int x :: .ref h0 :: rest)) := mw_pi S hK hW hS 42 (by decide) (fun _ => rfl) iw_688 rfl rfl (by decide +kernel) hdg kk
theorem M_recv (hK : Kt dC dI s) (hW : Mw dC dI h0 R A V G H) : ∃ cell : Cell, H[h0]? = some cell ∧ cell.vm.isStatics = false ∧ s.vm.findClass RX4 = some cell.cls := by
  obtain ⟨h1, ⟨I, ⟨r, g1, cell, g2, g3, g4, g5⟩, hV⟩, h3⟩ := hW
  exact ⟨cell, g2, by rw [g4]; rfl, by rw [g3]; exact hK.name 5 (by decide)⟩
end B20
theorem Kt.blind {dC : Nat → ClassId} {dI : Nat → Nat → Nat} : Blind (Kt dC dI) := fun U U2 _ h2 h => va_K.moved (by rw [h2]; exact Vm.Alike.refl _) h
theorem Kt.at {dC : Nat → ClassId} {dI : Nat → Nat → Nat} {s : State} {H : Heap} (h : Kt dC dI s) : ∀ U : State, U.heap = H → s.WarmedH U.vm → Kt dC dI U := fun U _ hW => va_K.moved hW.alike h
end
section
def gBit (b : Int32) (s : Nat) : Prop := (b >>> (nI s &&& 31)) &&& 1 = 1
theorem gb_k0 (b : BitVec 32) : ((b ||| (1#32 <<< 0)).sshiftRight 0) &&& 1#32 = 1#32 := by
  apply BitVec.eq_of_getLsbD_eq
  intro i hi
  rw [BitVec.getLsbD_and, BitVec.getLsbD_sshiftRight]
  cases i with
  | zero => simp
  | succ n => simp
theorem gb_or0 (b : Int32) : gBit (b ||| ((1 : Int32) <<< (nI 0 &&& 31))) 0 := by
  unfold gBit
  apply Int32.toBitVec_inj.mp
  have e : (nI 0 &&& 31) = 0 := by decide
  rw [e]
  simp only [Int32.toBitVec_and, Int32.toBitVec_shiftRight, Int32.toBitVec_or, Int32.toBitVec_shiftLeft]
  have e2 : ((0 : Int32).toBitVec.smod 32) = 0#32 := by decide
  rw [e2]
  exact gb_k0 b.toBitVec
theorem gb_k1 (b : BitVec 32) : ((b ||| (1#32 <<< 1)).sshiftRight 1) &&& 1#32 = 1#32 := by
  apply BitVec.eq_of_getLsbD_eq
  intro i hi
  rw [BitVec.getLsbD_and, BitVec.getLsbD_sshiftRight]
  cases i with
  | zero => simp
  | succ n => simp
theorem gb_or1 (b : Int32) : gBit (b ||| ((1 : Int32) <<< (nI 1 &&& 31))) 1 := by
  unfold gBit
  apply Int32.toBitVec_inj.mp
  have e : (nI 1 &&& 31) = 1 := by decide
  rw [e]
  simp only [Int32.toBitVec_and, Int32.toBitVec_shiftRight, Int32.toBitVec_or, Int32.toBitVec_shiftLeft]
  have e2 : ((1 : Int32).toBitVec.smod 32) = 1#32 := by decide
  rw [e2]
  exact gb_k1 b.toBitVec
theorem gb_k2 (b : BitVec 32) : ((b ||| (1#32 <<< 2)).sshiftRight 2) &&& 1#32 = 1#32 := by
  apply BitVec.eq_of_getLsbD_eq
  intro i hi
  rw [BitVec.getLsbD_and, BitVec.getLsbD_sshiftRight]
  cases i with
  | zero => simp
  | succ n => simp
theorem gb_or2 (b : Int32) : gBit (b ||| ((1 : Int32) <<< (nI 2 &&& 31))) 2 := by
  unfold gBit
  apply Int32.toBitVec_inj.mp
  have e : (nI 2 &&& 31) = 2 := by decide
  rw [e]
  simp only [Int32.toBitVec_and, Int32.toBitVec_shiftRight, Int32.toBitVec_or, Int32.toBitVec_shiftLeft]
  have e2 : ((2 : Int32).toBitVec.smod 32) = 2#32 := by decide
  rw [e2]
  exact gb_k2 b.toBitVec
theorem gb_k3 (b : BitVec 32) : ((b ||| (1#32 <<< 3)).sshiftRight 3) &&& 1#32 = 1#32 := by
  apply BitVec.eq_of_getLsbD_eq
  intro i hi
  rw [BitVec.getLsbD_and, BitVec.getLsbD_sshiftRight]
  cases i with
  | zero => simp
  | succ n => simp
theorem gb_or3 (b : Int32) : gBit (b ||| ((1 : Int32) <<< (nI 3 &&& 31))) 3 := by
  unfold gBit
  apply Int32.toBitVec_inj.mp
  have e : (nI 3 &&& 31) = 3 := by decide
  rw [e]
  simp only [Int32.toBitVec_and, Int32.toBitVec_shiftRight, Int32.toBitVec_or, Int32.toBitVec_shiftLeft]
  have e2 : ((3 : Int32).toBitVec.smod 32) = 3#32 := by decide
  rw [e2]
  exact gb_k3 b.toBitVec
theorem gb_k4 (b : BitVec 32) : ((b ||| (1#32 <<< 4)).sshiftRight 4) &&& 1#32 = 1#32 := by
  apply BitVec.eq_of_getLsbD_eq
  intro i hi
  rw [BitVec.getLsbD_and, BitVec.getLsbD_sshiftRight]
  cases i with
  | zero => simp
  | succ n => simp
theorem gb_or4 (b : Int32) : gBit (b ||| ((1 : Int32) <<< (nI 4 &&& 31))) 4 := by
  unfold gBit
  apply Int32.toBitVec_inj.mp
  have e : (nI 4 &&& 31) = 4 := by decide
  rw [e]
  simp only [Int32.toBitVec_and, Int32.toBitVec_shiftRight, Int32.toBitVec_or, Int32.toBitVec_shiftLeft]
  have e2 : ((4 : Int32).toBitVec.smod 32) = 4#32 := by decide
  rw [e2]
  exact gb_k4 b.toBitVec
theorem gb_k5 (b : BitVec 32) : ((b ||| (1#32 <<< 5)).sshiftRight 5) &&& 1#32 = 1#32 := by
  apply BitVec.eq_of_getLsbD_eq
  intro i hi
  rw [BitVec.getLsbD_and, BitVec.getLsbD_sshiftRight]
  cases i with
  | zero => simp
  | succ n => simp
theorem gb_or5 (b : Int32) : gBit (b ||| ((1 : Int32) <<< (nI 5 &&& 31))) 5 := by
  unfold gBit
  apply Int32.toBitVec_inj.mp
  have e : (nI 5 &&& 31) = 5 := by decide
  rw [e]
  simp only [Int32.toBitVec_and, Int32.toBitVec_shiftRight, Int32.toBitVec_or, Int32.toBitVec_shiftLeft]
  have e2 : ((5 : Int32).toBitVec.smod 32) = 5#32 := by decide
  rw [e2]
  exact gb_k5 b.toBitVec
theorem gb_k6 (b : BitVec 32) : ((b ||| (1#32 <<< 6)).sshiftRight 6) &&& 1#32 = 1#32 := by
  apply BitVec.eq_of_getLsbD_eq
  intro i hi
  rw [BitVec.getLsbD_and, BitVec.getLsbD_sshiftRight]
  cases i with
  | zero => simp
  | succ n => simp
theorem gb_or6 (b : Int32) : gBit (b ||| ((1 : Int32) <<< (nI 6 &&& 31))) 6 := by
  unfold gBit
  apply Int32.toBitVec_inj.mp
  have e : (nI 6 &&& 31) = 6 := by decide
  rw [e]
  simp only [Int32.toBitVec_and, Int32.toBitVec_shiftRight, Int32.toBitVec_or, Int32.toBitVec_shiftLeft]
  have e2 : ((6 : Int32).toBitVec.smod 32) = 6#32 := by decide
  rw [e2]
  exact gb_k6 b.toBitVec
theorem gb_k7 (b : BitVec 32) : ((b ||| (1#32 <<< 7)).sshiftRight 7) &&& 1#32 = 1#32 := by
  apply BitVec.eq_of_getLsbD_eq
  intro i hi
  rw [BitVec.getLsbD_and, BitVec.getLsbD_sshiftRight]
  cases i with
  | zero => simp
  | succ n => simp
theorem gb_or7 (b : Int32) : gBit (b ||| ((1 : Int32) <<< (nI 7 &&& 31))) 7 := by
  unfold gBit
  apply Int32.toBitVec_inj.mp
  have e : (nI 7 &&& 31) = 7 := by decide
  rw [e]
  simp only [Int32.toBitVec_and, Int32.toBitVec_shiftRight, Int32.toBitVec_or, Int32.toBitVec_shiftLeft]
  have e2 : ((7 : Int32).toBitVec.smod 32) = 7#32 := by decide
  rw [e2]
  exact gb_k7 b.toBitVec
theorem gBit_or (b : Int32) (j : Nat) (h : j < 8) : gBit (b ||| ((1 : Int32) <<< (nI j &&& 31))) j := by
  rcases (show j = 0 ∨ j = 1 ∨ j = 2 ∨ j = 3 ∨ j = 4 ∨ j = 5 ∨ j = 6 ∨ j = 7 by omega) with rfl | rfl | rfl | rfl | rfl | rfl | rfl | rfl
  · exact gb_or0 b
  · exact gb_or1 b
  · exact gb_or2 b
  · exact gb_or3 b
  · exact gb_or4 b
  · exact gb_or5 b
  · exact gb_or6 b
  · exact gb_or7 b
/-- either no bit, or one of a place below n -/
def gMay (b : Int32) (n : Nat) : Prop := b = 0 ∨ ∃ s, s < n ∧ gBit b s
theorem gMay_0 (n : Nat) : gMay 0 n := Or.inl rfl
theorem gMay_up {b : Int32} {j : Nat} (h : gMay b j) : gMay b (j + 1) := h.elim Or.inl (fun ⟨s, h1, h2⟩ => Or.inr ⟨s, by omega, h2⟩)
theorem gMay_or {b : Int32} {j : Nat} (h : j < 8) : gMay (b ||| ((1 : Int32) <<< (nI j &&& 31))) (j + 1) := Or.inr ⟨j, by omega, gBit_or b j h⟩
theorem gF_skip {a b : Int32} {j ns : Nat} (h : ∀ s, s < j → ¬ gBit a s) (hj : ¬ gBit a j) (hb : b = -1 := by rfl) : (b = -1 ∧ ∀ s, s < j + 1 → ¬ gBit a s) ∨ ∃ q, q < ns ∧ b = nI q := by
  refine Or.inl ⟨hb, fun s hs => ?_⟩
  rcases Nat.lt_succ_iff_lt_or_eq.mp hs with h1 | h1
  · exact h s h1
  · rw [h1]; exact hj
/-- drained: DRAINING or GONE -/
def gDr (x : Int32) : Prop := x = 3 ∨ x = 4
/-- what is asked of the reference's rows -/
def I31 (G : Nat → Nat → Int32) : Prop := ∀ c, c < 200 → ∃ n, n ≤ 2 ∧ G 31 c = nI n
def I37 (G : Nat → Nat → Int32) : Prop := ∀ x, x < 400 → ∃ k, k < 8 ∧ G 37 x = nI k
def IQ (G : Nat → Nat → Int32) : Prop := ∀ c, c < 200 → G 30 c = 0 → G 31 c = 0
def IZ (nc : Nat) (G : Nat → Nat → Int32) : Prop := ∀ c, nc ≤ c → c < 200 → G 30 c = 0
def ID (dr : Nat → Prop) (G : Nat → Nat → Int32) : Prop := ∀ k, k < 8 → (dr k ↔ gDr (G 17 k))
/-- the document's refusals, as both sides have them -/
def badS (ns : Nat) (w z r p b : Int32) : Option Int32 := if z.toInt < 0 ∨ 4 ≤ z.toInt then some (-1) else if w.toInt < 1 ∨ r.toInt < 1 ∨ p.toInt < 1 ∨ b.toInt < 0 then some (-4) else if 100 < w.toInt ∨ 20 < r.toInt ∨ 200 < p.toInt ∨ 20 < b.toInt ∨ 8 ≤ ns then some (-6) else none
def badR (r : Int32) : Option Int32 := if r.toInt < 0 ∨ 3 < r.toInt then some (-1) else none
def badN (n : Int32) (lo hi : Int) : Option Int32 := if n.toInt < lo then some (-4) else if hi < n.toInt then some (-6) else none
def badC (nc : Nat) (k g n : Int32) : Option Int32 := if k.toInt < 0 ∨ g.toInt < 0 ∨ n.toInt < 1 then some (-4) else if 65535 < k.toInt ∨ 3 < g.toInt ∨ 2000 < n.toInt ∨ 200 ≤ nc then some (-6) else none
def gMk (s m : Int32) : Int32 := (40503 * (((4 * s) + m) + 1)) - (40503 * (((4 * s) + m) + 1)) / 65536 * 65536
def exMark (ns : Nat) (s m : Int32) : Int32 := if s.toInt < 0 ∨ (ns : Int) ≤ s.toInt then -1 else if m.toInt < 0 ∨ 4 ≤ m.toInt then -2 else gMk s m
theorem pz_posne {x : Int32} (h : ¬ x ≤ 0) : x ≠ 0 := fun e => h (by rw [e]; decide)
section B21
variable {p : Program} {l : Launch} {e : Env} {Rm : Room} {s : State} {m : MethodId} {args : Array Value} {below : List Frame} {meth : Method} {c : Code} {H : Heap} {locs : List Loc} {cells slots : Nat} {Q : State → Prop}
variable {cc : ByteArray} {pc nL : Nat} {ls : Array Slot} {rest : List Value} {dC : Nat → ClassId} {dI : Nat → Nat → Nat} {h0 : Nat} {R : Nat → Nat}
theorem mw_gI {index : Nat} (S : CallFix p m c cc nL s args tb RX4) (hK : Kt dC dI s) {I : Nat → Int32} (hI : oat dC dI h0 5 (eM R I) H) (k : Nat) (hk : k < 43) (hv : ∀ I : Nat → Int32, (eM R I)[k]? = some (.int (I k))) (hl : Cond.fieldLink RX4 index "FrontDoorModel" (TX4 k).2.1 (TX4 k).2.2.1 ∈ tb) (hn : (TX4 k).1 = "FrontDoorModel") (hdg : decode cc pc = .ok (.getfield index, 3))
    (kk : W p l e Rm s m args below meth c H locs cells slots Q (F0 m (pc + 3) ls (.int (I k) :: rest))) : W p l e Rm s m args below meth c H locs cells slots Q (F0 m pc ls (.ref h0 :: rest)) := by
  obtain ⟨hx, hb, hml, hown, hts⟩ := S
  exact x_get (C := RX4) (T := TX4) (N := 43) (ci := 5) hx hb hts inX4 hown hK hI rfl k hk (hts _ hl) (fun x h => by rw [hn] at h; exact h) (hv I) hdg kk
end B21
theorem ID.keep {dr : Nat → Prop} {G G1 : Nat → Nat → Int32} (h : ID dr G) (h2 : ∀ k, gDr (G1 17 k) ↔ gDr (G 17 k)) : ID dr G1 := fun k hk => (h k hk).trans (h2 k).symm
theorem gDr_upd {f : Nat → Int32} {j : Nat} {v : Int32} (h : ¬ gDr (f j)) (hv : ¬ gDr v) : ∀ s, gDr (upd f j v s) ↔ gDr (f s) := by
  intro s
  by_cases e : s = j
  · subst e
    rw [pk_us]
    exact ⟨fun q => absurd q hv, fun q => absurd q h⟩
  · rw [pk_un e]
theorem gDr_n {x : Int32} (h : x = 0 ∨ x = 1 ∨ x = 2) : ¬ gDr x := by
  unfold gDr
  rcases h with h | h | h <;> rw [h] <;> decide
theorem bm32 {z : Int} (h1 : -2147483648 ≤ z) (h2 : z < 2147483648) : z.bmod (2 ^ 32) = z := by
  rw [Int.bmod_eq_of_le (by omega) (by omega)]
theorem rg32 (x : Int32) : -2147483648 ≤ x.toInt ∧ x.toInt < 2147483648 := by
  have h1 := Int32.le_toInt x
  have h2 := Int32.toInt_lt x
  omega
theorem irem_lt (x : Int32) : (x - x / 65536 * 65536).toInt < 65536 := by
  have hr := rg32 x
  have e0 : (65536 : Int32).toInt = 65536 := by decide
  have ht : (0 ≤ x.toInt ∧ x.toInt.tdiv 65536 = x.toInt / 65536) ∨ (x.toInt < 0 ∧ x.toInt.tdiv 65536 = -((-x.toInt) / 65536)) := by
    rcases Int.lt_or_le x.toInt 0 with h | h
    · refine Or.inr ⟨h, ?_⟩
      have e1 : x.toInt = -(-x.toInt) := by omega
      have e2 : (-(-x.toInt)).tdiv 65536 = -((-x.toInt).tdiv 65536) := Int.neg_tdiv (-x.toInt) 65536
      rw [← e1] at e2
      rw [e2, Int.tdiv_eq_ediv_of_nonneg (by omega)]
    · exact Or.inl ⟨h, Int.tdiv_eq_ediv_of_nonneg h⟩
  have hd : (x / 65536).toInt = x.toInt.tdiv 65536 := by
    rw [Int32.toInt_div, e0]
    exact bm32 (by omega) (by omega)
  have hm : (x / 65536 * 65536).toInt = x.toInt.tdiv 65536 * 65536 := by
    rw [Int32.toInt_mul, hd, e0]
    exact bm32 (by omega) (by omega)
  rw [Int32.toInt_sub, hm]
  rw [bm32 (by omega) (by omega)]
  omega
theorem gDr_upd2 {f : Nat → Int32} {j : Nat} {v : Int32} (h : gDr (f j)) (hv : gDr v) : ∀ s, gDr (upd f j v s) ↔ gDr (f s) := by
  intro s
  by_cases e : s = j
  · subst e
    rw [pk_us]
    exact ⟨fun _ => h, fun _ => hv⟩
  · rw [pk_un e]
def MI (ns nc : Nat) (dr : Nat → Prop) (V : Nat → Int32) (G : Nat → Nat → Int32) : Prop := (V 2 = nI ns ∧ ns ≤ 8) ∧ (V 3 = nI nc ∧ nc ≤ 200) ∧ I31 G ∧ I37 G ∧ IQ G ∧ IZ nc G ∧ ID dr G
def KV (V V1 : Nat → Int32) : Prop := ∀ j, 4 ≤ j → j ≤ 7 → V1 j = V j
theorem KV.rf {V : Nat → Int32} : KV V V := fun _ _ _ => rfl
theorem KV.tr {V V1 V2 : Nat → Int32} (h : KV V V1) (h2 : KV V1 V2) : KV V V2 := fun j a b => (h2 j a b).trans (h j a b)
theorem MI.V {ns nc : Nat} {dr : Nat → Prop} {V V1 : Nat → Int32} {G : Nat → Nat → Int32} (h : MI ns nc dr V G) (h2 : V1 2 = V 2) (h3 : V1 3 = V 3) : MI ns nc dr V1 G := ⟨⟨h2.trans h.1.1, h.1.2⟩, ⟨h3.trans h.2.1.1, h.2.1.2⟩, h.2.2⟩
/-- one CALL's rows have changed -/
theorem MI.one {ns nc : Nat} {dr : Nat → Prop} {V : Nat → Int32} {G G1 : Nat → Nat → Int32} (h : MI ns nc dr V G) {c : Nat} (hc : c < nc) (h30 : ∀ j, j ≠ c → G1 30 j = G 30 j) (h31 : ∀ j, j ≠ c → G1 31 j = G 31 j) (hn : ∃ n, n ≤ 2 ∧ G1 31 c = nI n) (hq : G1 30 c = 0 → G1 31 c = 0) (h37 : I37 G1) (h17 : G1 17 = G 17) : MI ns nc dr V G1 := by
  obtain ⟨a, b, d, e, f, g, i⟩ := h
  refine ⟨a, b, fun j hj => ?_, h37, fun j hj hz => ?_, fun j h1 h2 => ?_, fun k hk => by rw [h17]; exact i k hk⟩
  · by_cases q : j = c
    · subst q; exact hn
    · rw [h31 j q]; exact d j hj
  · by_cases q : j = c
    · subst q; exact hq hz
    · rw [h31 j q]; rw [h30 j q] at hz; exact f j hj hz
  · rw [h30 j (by omega)]; exact g j h1 h2
theorem MI.h {ns nc : Nat} {dr : Nat → Prop} {V : Nat → Int32} {G G1 : Nat → Nat → Int32} (h : MI ns nc dr V G) (h1 : ∀ j, j ≠ 17 → G1 j = G j) (h2 : ∀ k, gDr (G1 17 k) ↔ gDr (G 17 k)) : MI ns nc dr V G1 := by
  obtain ⟨a, b, d, e, f, g, i⟩ := h
  refine ⟨a, b, ?_, ?_, ?_, ?_, i.keep h2⟩
  · unfold I31; rw [h1 31 (by decide)]; exact d
  · unfold I37; rw [h1 37 (by decide)]; exact e
  · unfold IQ; rw [h1 31 (by decide), h1 30 (by decide)]; exact f
  · unfold IZ; rw [h1 30 (by decide)]; exact g
theorem MI.q {ns nc : Nat} {dr : Nat → Prop} {V : Nat → Int32} {G G1 : Nat → Nat → Int32} (h : MI ns nc dr V G) (h1 : ∀ j, j ≠ 41 → G1 j = G j) : MI ns nc dr V G1 := by
  obtain ⟨a, b, d, e, f, g, i⟩ := h
  refine ⟨a, b, ?_, ?_, ?_, ?_, i.keep (fun k => by rw [h1 17 (by decide)])⟩
  · unfold I31; rw [h1 31 (by decide)]; exact d
  · unfold I37; rw [h1 37 (by decide)]; exact e
  · unfold IQ; rw [h1 31 (by decide), h1 30 (by decide)]; exact f
  · unfold IZ; rw [h1 30 (by decide)]; exact g
/-- what asking does to the rows -/
def AskR (c : Nat) (G G1 : Nat → Nat → Int32) : Prop := (∀ j, j ≠ c → G1 30 j = G 30 j) ∧ (∀ j, j ≠ c → G1 31 j = G 31 j) ∧ (∃ n, n ≤ 2 ∧ G1 31 c = nI n) ∧ (G1 30 c = 0 → G1 31 c = 0) ∧ I37 G1 ∧ G1 17 = G 17 ∧ G1 41 = G 41
theorem AskR.rf {c : Nat} {G : Nat → Nat → Int32} (h : G 31 c = 0) (h37 : I37 G) : AskR c G G := ⟨fun _ _ => rfl, fun _ _ => rfl, ⟨0, by decide, h⟩, fun _ => h, h37, rfl, rfl⟩
theorem I37.up {G G1 : Nat → Nat → Int32} (h : I37 G) {i k : Nat} (hk : k < 8) (e : G1 37 = upd (G 37) i (nI k)) : I37 G1 := by
  intro x hx
  rw [e]
  by_cases q : x = i
  · subst q; exact ⟨k, hk, pk_us⟩
  · rw [pk_un q]; exact h x hx
theorem I37.same {G G1 : Nat → Nat → Int32} (h : I37 G) (e : G1 37 = G 37) : I37 G1 := by unfold I37; rw [e]; exact h
theorem AskR.of {c s n : Nat} {G G1 : Nat → Nat → Int32} (h37 : I37 G) (hs : s < 8) (hn : n ≤ 1) (e37 : G1 37 = upd (G 37) (2 * c + n) (nI s)) (e31 : G1 31 = upd (G 31) c (nI (n + 1))) (e30 : G1 30 = upd (G 30) c 1) (eo : ∀ j, j ≠ 37 → j ≠ 31 → j ≠ 30 → G1 j = G j) : AskR c G G1 := by
  refine ⟨fun j hj => by rw [e30]; exact pk_un hj, fun j hj => by rw [e31]; exact pk_un hj, ⟨n + 1, by omega, by rw [e31]; exact pk_us⟩, fun h => ?_, h37.up hs e37, eo 17 (by decide) (by decide) (by decide), eo 41 (by decide) (by decide) (by decide)⟩
  rw [e30, pk_us] at h
  exact absurd h (by decide)
theorem MI.ask {ns nc : Nat} {dr : Nat → Prop} {V : Nat → Int32} {G G1 : Nat → Nat → Int32} (h : MI ns nc dr V G) {c : Nat} (hc : c < nc) (r : AskR c G G1) : MI ns nc dr V G1 := h.one hc r.1 r.2.1 r.2.2.1 r.2.2.2.1 r.2.2.2.2.1 r.2.2.2.2.2.1
theorem MI.more {ns nc : Nat} {dr : Nat → Prop} {V V1 : Nat → Int32} {G : Nat → Nat → Int32} (h : MI ns nc dr V G) (hc : nc < 200) (h2 : V1 2 = V 2) (h3 : V1 3 = nI (nc + 1)) : MI ns (nc + 1) dr V1 G := by
  obtain ⟨a, b, d, e, f, g, i⟩ := h
  exact ⟨⟨h2.trans a.1, a.2⟩, ⟨h3, by omega⟩, d, e, f, fun j h1 h2 => g j (by omega) h2, i⟩
theorem MI.a0 {ns nc : Nat} {dr : Nat → Prop} {V : Nat → Int32} {G : Nat → Nat → Int32} (h : MI ns nc dr V G) (hc : nc < 200) : G 31 nc = 0 := h.2.2.2.2.1 nc hc (h.2.2.2.2.2.1 nc (Nat.le_refl _) hc)
/-- an ASKING is taken away -/
theorem MI.takes {ns nc : Nat} {dr : Nat → Prop} {V : Nat → Int32} {G G1 : Nat → Nat → Int32} (h : MI ns nc dr V G) {c n : Nat} (hc : c < nc) (hn0 : 0 < n) (hn : n ≤ 2) (hk : G 31 c = nI n) (e31 : G1 31 = upd (G 31) c (nI (n - 1))) (h37 : I37 G1) (eo : ∀ j, j ≠ 31 → j ≠ 37 → G1 j = G j) : MI ns nc dr V G1 := by
  refine h.one hc (fun j hj => by rw [eo 30 (by decide) (by decide)]) (fun j hj => by rw [e31]; exact pk_un hj) ⟨n - 1, by omega, by rw [e31]; exact pk_us⟩ (fun hz => ?_) h37 (eo 17 (by decide) (by decide))
  rw [eo 30 (by decide) (by decide)] at hz
  have h9 := h.2.2.2.2.1 c (by have := h.2.1.2; omega) hz
  rw [hk] at h9
  exact absurd h9 (nI_ne0 hn0 (by omega))
def EndR (c : Nat) (how : Int32) (G G1 : Nat → Nat → Int32) : Prop := G1 31 c = 0 ∧ (∀ j, j ≠ c → G1 31 j = G 31 j) ∧ G1 30 = upd (G 30) c how ∧ I37 G1 ∧ ∀ j, j ≠ 30 → j ≠ 31 → j ≠ 37 → G1 j = G j
theorem MI.ends {ns nc : Nat} {dr : Nat → Prop} {V : Nat → Int32} {G G1 : Nat → Nat → Int32} (h : MI ns nc dr V G) {c : Nat} {how : Int32} (hc : c < nc) (r : EndR c how G G1) : MI ns nc dr V G1 :=
  h.one hc (fun j hj => by rw [r.2.2.1]; exact pk_un hj) r.2.1 ⟨0, by decide, r.1⟩ (fun _ => r.1) r.2.2.2.1 (r.2.2.2.2 17 (by decide) (by decide) (by decide))
/-- THE QUEUE's places: CALLS below n that are QUEUED, no one twice; the place h is left out -/
def Qh (j n h : Nat) (st qu : Nat → Int32) : Prop := (∀ t, t < n → t ≠ h → ∃ a, a < j ∧ qu t = nI a ∧ st a = 0) ∧ ∀ t u, t < n → u < n → t ≠ h → u ≠ h → t ≠ u → qu t ≠ qu u
def Qf (j n : Nat) (st qu : Nat → Int32) : Prop := (∀ t, t < n → ∃ a, a < j ∧ qu t = nI a ∧ st a = 0) ∧ ∀ t u, t < n → u < n → t ≠ u → qu t ≠ qu u
theorem Qf.hole {j n : Nat} {st qu : Nat → Int32} (h : Qf j n st qu) : Qh j (n + 1) n st qu := ⟨fun t h1 h2 => h.1 t (by omega), fun t u h1 h2 h3 h4 h5 => h.2 t u (by omega) (by omega) h5⟩
theorem Qh.shift {j n k : Nat} {st qu q2 : Nat → Int32} (h : Qh j n k st qu) (hk0 : 0 < k) (hk : k < n) (e : q2 = upd qu k (qu (k - 1))) : Qh j n (k - 1) st q2 := by
  subst e
  refine ⟨fun t h1 h2 => ?_, fun t u h1 h2 h3 h4 h5 => ?_⟩
  · by_cases q : t = k
    · subst q; rw [pk_us]; exact h.1 (t - 1) (by omega) (by omega)
    · rw [pk_un q]; exact h.1 t h1 q
  · by_cases q : t = k
    · subst q
      rw [pk_us, pk_un (fun z => h5 z.symm)]
      exact h.2 (t - 1) u (by omega) h2 (by omega) (fun z => h5 z.symm) (fun z => h4 z.symm)
    · by_cases q2 : u = k
      · subst q2
        rw [pk_us, pk_un q]
        exact h.2 t (u - 1) h1 (by omega) q (by omega) h3
      · rw [pk_un q, pk_un q2]
        exact h.2 t u h1 h2 q q2 h5
theorem Qh.put {j n k : Nat} {st qu q2 : Nat → Int32} (h : Qh j n k st qu) (hj : j < 200) (hk : k < n) (hs : st j = 0) (e : q2 = upd qu k (nI j)) : Qf (j + 1) n st q2 := by
  subst e
  have hne : ∀ t, t < n → t ≠ k → qu t ≠ nI j := fun t h1 h2 => by
    obtain ⟨a, h3, h4, -⟩ := h.1 t h1 h2
    rw [h4]
    exact fun z => absurd ((nI_eq (by omega) (by omega)).mp z) (by omega)
  refine ⟨fun t h1 => ?_, fun t u h1 h2 h5 => ?_⟩
  · by_cases q : t = k
    · subst q; exact ⟨j, by omega, pk_us, hs⟩
    · rw [pk_un q]
      obtain ⟨a, h3, h4⟩ := h.1 t h1 q
      exact ⟨a, by omega, h4⟩
  · by_cases q : t = k
    · subst q
      rw [pk_us, pk_un (fun z => h5 z.symm)]
      exact fun z => hne u h2 (fun z2 => h5 z2.symm) z.symm
    · by_cases q2 : u = k
      · subst q2; rw [pk_us, pk_un q]; exact hne t h1 q
      · rw [pk_un q, pk_un q2]; exact h.2 t u h1 h2 q q2 h5
theorem Qf.up {j n : Nat} {st qu : Nat → Int32} (h : Qf j n st qu) : Qf (j + 1) n st qu := ⟨fun t h1 => by obtain ⟨a, h2, h3⟩ := h.1 t h1; exact ⟨a, by omega, h3⟩, h.2⟩
theorem Qf.zero {j : Nat} {st qu : Nat → Int32} : Qf j 0 st qu := ⟨fun t h => absurd h (Nat.not_lt_zero t), fun t u h => absurd h (Nat.not_lt_zero t)⟩
/-- THE QUEUE from the place j on -/
def Qr (nc j n : Nat) (st qu : Nat → Int32) : Prop := (∀ t, j ≤ t → t < n → ∃ a, a < nc ∧ qu t = nI a ∧ st a = 0) ∧ ∀ t u, t < n → u < n → t ≠ u → qu t ≠ qu u
theorem Qr.next {nc j n a : Nat} {st st2 qu : Nat → Int32} (h : Qr nc j n st qu) (hj : j < n) (ha : qu j = nI a) (e : ∀ x, x ≠ a → st2 x = st x) : Qr nc (j + 1) n st2 qu := by
  refine ⟨fun t h1 h2 => ?_, h.2⟩
  obtain ⟨b, h3, h4, h5⟩ := h.1 t (by omega) h2
  refine ⟨b, h3, h4, ?_⟩
  rw [e b (fun z => ?_)]
  · exact h5
  · subst z
    exact h.2 t j h2 hj (by omega) (h4.trans ha.symm)
end
section
abbrev B_q_X4_isIn  (A : Nat → Prop) (P : Heap → Prop) (k0 : Int32) (n0 : Int32) : Option Value → Heap → Prop := fun v H => ∃ r : Int32, v = some (.int r) ∧ ((0 ≤ k0.toInt ∧ k0.toInt < n0.toInt ∧ r = 1) ∨ ((k0.toInt < 0 ∨ n0.toInt ≤ k0.toInt) ∧ r = 0)) ∧ P H
set_option maxHeartbeats 8000000 in
set_option maxRecDepth 20000 in
theorem q_X4_isIn (l : Launch) (A : Nat → Prop) (P : Heap → Prop) (k0 : Int32) (n0 : Int32) : Met l yX4_isIn (cws yX4_isIn cX4_isIn 2 (some .boolean)) { frames := 0, cells := 0, slots := 0, locals := 0 } (va_Pc [.int k0, .int n0] (fun U => True ∧ P U.heap)) (Qg (B_q_X4_isIn A P k0 n0) A) 0 0 A := by
  refine m_start (KK := fun _ => True) (Pw := P) (by decide) (Nat.le_of_ble_eq_true rfl) ?_
  intro p e s m below meth c ls S hr hlocks hin hK hW hS hl
  obtain ⟨hx, hb, hml, hown, hts⟩ := id S
  have hl : lv_has ls 2 [(0, .int k0), (1, .int n0)] := hl
  refine lv_iload_n hx hb dX4_isIn_0 rfl (lv_at hl 0 rfl) ?_
  refine lv_if_lt (tgt := 13) hx hb dX4_isIn_1 (by decide) (fun c_1 => ?_) (fun c_1 => ?_)
  · skip
    have i_1 : k0.toInt < 0 := by have h9 := pz_lt c_1; exact h9
    refine lv_iconst (v := 0) hx hb dX4_isIn_13 (by decide) ?_
    exact r_z (v := 0) hx hb hr rfl hlocks hS dX4_isIn_14 (⟨_, rfl, Or.inr ⟨by omega, rfl⟩, hW⟩)
  · skip
    have i_1 : k0.toInt ≥ 0 := by have h9 := pz_nlt c_1; exact h9
    refine lv_iload_n hx hb dX4_isIn_4 rfl (lv_at hl 0 rfl) ?_
    refine lv_iload_n hx hb dX4_isIn_5 rfl (lv_at hl 1 rfl) ?_
    refine lv_icmp_ge (tgt := 13) hx hb dX4_isIn_6 (by decide) (fun c_2 => ?_) (fun c_2 => ?_)
    · skip
      have i_2 : k0.toInt ≥ n0.toInt := by have h9 := pz_ge c_2; exact h9
      refine lv_iconst (v := 0) hx hb dX4_isIn_13 (by decide) ?_
      exact r_z (v := 0) hx hb hr rfl hlocks hS dX4_isIn_14 (⟨_, rfl, Or.inr ⟨by omega, rfl⟩, hW⟩)
    · skip
      have i_2 : k0.toInt < n0.toInt := by have h9 := pz_nge c_2; exact h9
      refine lv_iconst (v := 1) hx hb dX4_isIn_9 (by decide) ?_
      refine lv_goto (tgt := 14) hx hb dX4_isIn_10 (by decide) ?_
      exact r_z (v := 1) hx hb hr rfl hlocks hS dX4_isIn_14 (⟨_, rfl, Or.inl ⟨by omega, by omega, rfl⟩, hW⟩)

abbrev B_q_X4_isServer (dC : Nat → ClassId) (dI : Nat → Nat → Nat) (h0 : Nat) (R : Nat → Nat) (A : Nat → Prop) (V : Nat → Int32) (G : Nat → Nat → Int32) (ns : Nat) (k0 : Int32) : Option Value → Heap → Prop := fun v H => ∃ r : Int32, v = some (.int r) ∧ ((0 ≤ k0.toInt ∧ k0.toInt < ((ns : Nat) : Int) ∧ r = 1) ∨ ((k0.toInt < 0 ∨ ((ns : Nat) : Int) ≤ k0.toInt) ∧ r = 0)) ∧ Mw dC dI h0 R A V G H
set_option maxHeartbeats 8000000 in
set_option maxRecDepth 20000 in
theorem q_X4_isServer (l : Launch) (dC : Nat → ClassId) (dI : Nat → Nat → Nat) (h0 : Nat) (R : Nat → Nat) (A : Nat → Prop) (V : Nat → Int32) (G : Nat → Nat → Int32) (ns : Nat) (k0 : Int32) (hV2 : V 2 = nI ns) (hns : ns ≤ 8) : Met l yX4_isServer (cws yX4_isServer cX4_isServer 2 (some .boolean)) { frames := 1, cells := 0, slots := 0, locals := 21 } (va_Pc [.ref h0, .int k0] (fun U => Kt dC dI U ∧ Mw dC dI h0 R A V G U.heap)) (Qg (B_q_X4_isServer dC dI h0 R A V G ns k0) A) 0 0 A := by
  refine m_start (KK := Kt dC dI) (Pw := Mw dC dI h0 R A V G) (by decide) (Nat.le_of_ble_eq_true rfl) ?_
  intro p e s m below meth c ls S hr hlocks hin hK hW hS hl
  obtain ⟨hx, hb, hml, hown, hts⟩ := id S
  have hl : lv_has ls 2 [(0, .ref h0), (1, .int k0)] := hl
  have en_s : (nI ns).toInt = ((ns : Nat) : Int) := pz_ti (by omega)
  refine lv_iload_n hx hb dX4_isServer_0 rfl (lv_at hl 1 rfl) ?_
  refine lv_aload_n hx hb dX4_isServer_1 rfl (lv_at hl 0 rfl) ?_
  refine M_g2 S hK hW dX4_isServer_2 (fun x_1 hx_1 => ?_)
  obtain rfl : x_1 = nI ns := hx_1.trans hV2
  refine c_s (n := 2) (As := [.int k0, .int (nI ns)]) (rest := []) S (q_X4_isIn l A (Mw dC dI h0 R A V G) k0 (nI ns)) iw_783 iw_781 iw_782 iw_61 (by decide +kernel) rfl ⟨rfl, rfl, Nat.le_of_ble_eq_true rfl, Nat.le_of_ble_eq_true rfl⟩ (fun _ _ _ _ _ => trivial) (fun _ _ _ => trivial) hW hl.1 rfl (by decide) dX4_isServer_5 ⟨Nat.le_refl _, Nat.le_refl _⟩ hS (fun _ h9 => h9) (fun v9 H locs hB hz9 hk9 hS => ?_)
  refine W.widen (k := 0) (n := 0) (Nat.le_refl 0) (Nat.le_refl 0) ?_
  obtain ⟨r_2, rfl, hr_2, hW⟩ := hB
  refine W.eq (g2 := F0 m 8 ls [.int r_2]) rfl ?_
  rcases hr_2 with ⟨ha_2, hb_2, rfl⟩ | ⟨ha_2, rfl⟩
  · skip
    exact r_z (v := 1) hx hb hr rfl hlocks hS dX4_isServer_8 (⟨_, rfl, Or.inl ⟨by omega, by omega, rfl⟩, hW⟩)
  · skip
    exact r_z (v := 0) hx hb hr rfl hlocks hS dX4_isServer_8 (⟨_, rfl, Or.inr ⟨by omega, rfl⟩, hW⟩)

abbrev B_q_X4_isCall (dC : Nat → ClassId) (dI : Nat → Nat → Nat) (h0 : Nat) (R : Nat → Nat) (A : Nat → Prop) (V : Nat → Int32) (G : Nat → Nat → Int32) (nc : Nat) (k0 : Int32) : Option Value → Heap → Prop := fun v H => ∃ r : Int32, v = some (.int r) ∧ ((0 ≤ k0.toInt ∧ k0.toInt < ((nc : Nat) : Int) ∧ r = 1) ∨ ((k0.toInt < 0 ∨ ((nc : Nat) : Int) ≤ k0.toInt) ∧ r = 0)) ∧ Mw dC dI h0 R A V G H
set_option maxHeartbeats 8000000 in
set_option maxRecDepth 20000 in
theorem q_X4_isCall (l : Launch) (dC : Nat → ClassId) (dI : Nat → Nat → Nat) (h0 : Nat) (R : Nat → Nat) (A : Nat → Prop) (V : Nat → Int32) (G : Nat → Nat → Int32) (nc : Nat) (k0 : Int32) (hV3 : V 3 = nI nc) (hnc : nc ≤ 200) : Met l yX4_isCall (cws yX4_isCall cX4_isCall 2 (some .boolean)) { frames := 1, cells := 0, slots := 0, locals := 21 } (va_Pc [.ref h0, .int k0] (fun U => Kt dC dI U ∧ Mw dC dI h0 R A V G U.heap)) (Qg (B_q_X4_isCall dC dI h0 R A V G nc k0) A) 0 0 A := by
  refine m_start (KK := Kt dC dI) (Pw := Mw dC dI h0 R A V G) (by decide) (Nat.le_of_ble_eq_true rfl) ?_
  intro p e s m below meth c ls S hr hlocks hin hK hW hS hl
  obtain ⟨hx, hb, hml, hown, hts⟩ := id S
  have hl : lv_has ls 2 [(0, .ref h0), (1, .int k0)] := hl
  have en_c : (nI nc).toInt = ((nc : Nat) : Int) := pz_ti (by omega)
  refine lv_iload_n hx hb dX4_isCall_0 rfl (lv_at hl 1 rfl) ?_
  refine lv_aload_n hx hb dX4_isCall_1 rfl (lv_at hl 0 rfl) ?_
  refine M_g3 S hK hW dX4_isCall_2 (fun x_1 hx_1 => ?_)
  obtain rfl : x_1 = nI nc := hx_1.trans hV3
  refine c_s (n := 2) (As := [.int k0, .int (nI nc)]) (rest := []) S (q_X4_isIn l A (Mw dC dI h0 R A V G) k0 (nI nc)) iw_783 iw_781 iw_782 iw_61 (by decide +kernel) rfl ⟨rfl, rfl, Nat.le_of_ble_eq_true rfl, Nat.le_of_ble_eq_true rfl⟩ (fun _ _ _ _ _ => trivial) (fun _ _ _ => trivial) hW hl.1 rfl (by decide) dX4_isCall_5 ⟨Nat.le_refl _, Nat.le_refl _⟩ hS (fun _ h9 => h9) (fun v9 H locs hB hz9 hk9 hS => ?_)
  refine W.widen (k := 0) (n := 0) (Nat.le_refl 0) (Nat.le_refl 0) ?_
  obtain ⟨r_2, rfl, hr_2, hW⟩ := hB
  refine W.eq (g2 := F0 m 8 ls [.int r_2]) rfl ?_
  rcases hr_2 with ⟨ha_2, hb_2, rfl⟩ | ⟨ha_2, rfl⟩
  · skip
    exact r_z (v := 1) hx hb hr rfl hlocks hS dX4_isCall_8 (⟨_, rfl, Or.inl ⟨by omega, by omega, rfl⟩, hW⟩)
  · skip
    exact r_z (v := 0) hx hb hr rfl hlocks hS dX4_isCall_8 (⟨_, rfl, Or.inr ⟨by omega, rfl⟩, hW⟩)

abbrev B_q_X4_refuse (dC : Nat → ClassId) (dI : Nat → Nat → Nat) (h0 : Nat) (R : Nat → Nat) (A : Nat → Prop) (V : Nat → Int32) (G : Nat → Nat → Int32) (cd : Int32) : Option Value → Heap → Prop := fun v H => ∃ r : Int32, v = some (.int r) ∧ r = cd ∧ Mw dC dI h0 R A V G H
set_option maxHeartbeats 8000000 in
set_option maxRecDepth 20000 in
theorem q_X4_refuse (l : Launch) (dC : Nat → ClassId) (dI : Nat → Nat → Nat) (h0 : Nat) (R : Nat → Nat) (A : Nat → Prop) (V : Nat → Int32) (G : Nat → Nat → Int32) (cd : Int32) (hcd : vp_in (-cd) 7) : Met l yX4_refuse (cws yX4_refuse cX4_refuse 2 (some .int)) { frames := 0, cells := 0, slots := 0, locals := 0 } (va_Pc [.ref h0, .int cd] (fun U => Kt dC dI U ∧ Mw dC dI h0 R A V G U.heap)) (Qg (B_q_X4_refuse dC dI h0 R A V G cd) A) 0 0 A := by
  refine m_start (KK := Kt dC dI) (Pw := Mw dC dI h0 R A V G) (by decide) (Nat.le_of_ble_eq_true rfl) ?_
  intro p e s m below meth c ls S hr hlocks hin hK hW hS hl
  obtain ⟨hx, hb, hml, hown, hts⟩ := id S
  have hl : lv_has ls 2 [(0, .ref h0), (1, .int cd)] := hl
  refine lv_aload_n hx hb dX4_refuse_0 rfl (lv_at hl 0 rfl) ?_
  refine M_g0 S hK hW dX4_refuse_1 ?_
  refine lv_iload_n hx hb dX4_refuse_4 rfl (lv_at hl 1 rfl) ?_
  refine lv_ineg hx hb dX4_refuse_5 ?_
  refine lv_dup2_11 hx hb dX4_refuse_6 rfl rfl ?_
  refine mw_ld S hK hW 0 rfl rfl hcd dX4_refuse_7 (fun x_1 hx_1 => ?_)
  refine lv_iconst (v := 1) hx hb dX4_refuse_8 (by decide) ?_
  refine lv_iadd hx hb dX4_refuse_9 ?_
  refine lv_topi (fun x_2 _ => ?_)
  refine mw_su S hK hW hS 0 rfl rfl rfl hcd dX4_refuse_10 (fun H locs hW hS => ?_)
  refine lv_iload_n hx hb dX4_refuse_11 rfl (lv_at hl 1 rfl) ?_
  exact r_i (v := cd) hx hb hr hlocks hS dX4_refuse_12 (⟨_, rfl, rfl, hW⟩)

abbrev B_q_X4_rule (dC : Nat → ClassId) (dI : Nat → Nat → Nat) (h0 : Nat) (R : Nat → Nat) (A : Nat → Prop) (V : Nat → Int32) (G : Nat → Nat → Int32) (a1 : Int32) : Option Value → Heap → Prop := fun v H => ∃ (r : Int32) (V1 : Nat → Int32), v = some (.int r) ∧ ((badR a1 = some r ∧ ∀ j, V1 j = V j) ∨ (badR a1 = none ∧ r = V 4 ∧ V1 4 = a1 ∧ ∀ j, j ≠ 4 → V1 j = V j)) ∧ Mw dC dI h0 R A V1 G H
set_option maxHeartbeats 8000000 in
set_option maxRecDepth 20000 in
theorem q_X4_rule (l : Launch) (dC : Nat → ClassId) (dI : Nat → Nat → Nat) (h0 : Nat) (R : Nat → Nat) (A : Nat → Prop) (V : Nat → Int32) (G : Nat → Nat → Int32) (a1 : Int32) : Met l yX4_rule (cws yX4_rule cX4_rule 3 (some .int)) { frames := 1, cells := 0, slots := 0, locals := 21 } (va_Pc [.ref h0, .int a1] (fun U => Kt dC dI U ∧ Mw dC dI h0 R A V G U.heap)) (Qg (B_q_X4_rule dC dI h0 R A V G a1) A) 0 0 A := by
  refine m_start (KK := Kt dC dI) (Pw := Mw dC dI h0 R A V G) (by decide) (Nat.le_of_ble_eq_true rfl) ?_
  intro p e s m below meth c ls S hr hlocks hin hK hW hS hl
  obtain ⟨hx, hb, hml, hown, hts⟩ := id S
  have hl : lv_has ls 3 [(0, .ref h0), (1, .int a1)] := hl
  refine lv_iload_n hx hb dX4_rule_0 rfl (lv_at hl 1 rfl) ?_
  refine lv_iconst (v := 4) hx hb dX4_rule_1 (by decide) ?_
  refine c_s (n := 2) (As := [.int a1, .int 4]) (rest := []) S (q_X4_isIn l A (Mw dC dI h0 R A V G) a1 4) iw_783 iw_781 iw_782 iw_61 (by decide +kernel) rfl ⟨rfl, rfl, Nat.le_of_ble_eq_true rfl, Nat.le_of_ble_eq_true rfl⟩ (fun _ _ _ _ _ => trivial) (fun _ _ _ => trivial) hW hl.1 rfl (by decide) dX4_rule_2 ⟨Nat.le_refl _, Nat.le_refl _⟩ hS (fun _ h9 => h9) (fun v9 H locs hB hz9 hk9 hS => ?_)
  refine W.widen (k := 0) (n := 0) (Nat.le_refl 0) (Nat.le_refl 0) ?_
  obtain ⟨r_1, rfl, hr_1, hW⟩ := hB
  refine W.eq (g2 := F0 m 5 ls [.int r_1]) rfl ?_
  rcases hr_1 with ⟨ha_1, hb_1, rfl⟩ | ⟨ha_1, rfl⟩
  · skip
    have hb_1 : a1.toInt < 4 := by have h9 := hb_1; exact h9
    refine lv_if_ne (tgt := 14) hx hb dX4_rule_5 (by decide) (fun c_2 => ?_) (fun c_2 => absurd c_2 (by decide))
    refine lv_aload_n hx hb dX4_rule_14 rfl (lv_at hl 0 rfl) ?_
    refine M_g4 S hK hW dX4_rule_15 (fun x_3 hx_3 => ?_)
    refine lv_istore_n (lv' := [(2, .int x_3), (0, .ref h0), (1, .int a1)]) hx hb dX4_rule_18 rfl hl (by decide) rfl (fun ls hl => ?_)
    refine lv_aload_n hx hb dX4_rule_19 rfl (lv_at hl 1 rfl) ?_
    refine lv_iload_n hx hb dX4_rule_20 rfl (lv_at hl 2 rfl) ?_
    refine M_p4 S hK hW hS dX4_rule_21 (fun H locs V_4 v1_4 v2_4 hW hS => ?_)
    refine lv_iload_n hx hb dX4_rule_24 rfl (lv_at hl 0 rfl) ?_
    exact r_i (v := x_3) hx hb hr hlocks hS dX4_rule_25 (⟨_, _, rfl, Or.inr ⟨by unfold badR; (repeat' split) <;> first | rfl | (exfalso; omega), hx_3, v1_4, v2_4⟩, hW⟩)
  · skip
    have ha_1 : a1.toInt < 0 ∨ 4 ≤ a1.toInt := by have h9 := ha_1; exact h9
    refine lv_if_ne (tgt := 14) hx hb dX4_rule_5 (by decide) (fun c_5 => absurd c_5 (by decide)) (fun c_5 => ?_)
    refine lv_aload_n hx hb dX4_rule_8 rfl (lv_at hl 0 rfl) ?_
    refine lv_iconst (v := (-1)) hx hb dX4_rule_9 (by decide) ?_
    refine c_v (n := 1) (As := [.int (-1)]) (rest := []) S (q_X4_refuse l dC dI h0 R A V G (-1) (by unfold vp_in; decide)) iw_787 iw_784 iw_786 iw_33 iw_61 (by decide +kernel) rfl ⟨rfl, rfl, Nat.le_of_ble_eq_true rfl, Nat.le_of_ble_eq_true rfl⟩ Kt.blind (M_recv hK hW) hK.at hW hl.1 rfl (by decide) dX4_rule_10 ⟨Nat.le_refl _, Nat.le_refl _⟩ hS (fun _ h9 => h9) (fun v9 H locs hB hz9 hk9 hS => ?_)
    refine W.widen (k := 0) (n := 0) (Nat.le_refl 0) (Nat.le_refl 0) ?_
    obtain ⟨_, rfl, rfl, hW⟩ := hB
    refine W.eq (g2 := F0 m 13 ls [.int (-1)]) rfl ?_
    exact r_i (v := (-1)) hx hb hr hlocks hS dX4_rule_13 (⟨_, V, rfl, Or.inl ⟨by unfold badR; (repeat' split) <;> first | rfl | (exfalso; omega), fun _ => rfl⟩, hW⟩)

abbrev B_q_X4_limit (dC : Nat → ClassId) (dI : Nat → Nat → Nat) (h0 : Nat) (R : Nat → Nat) (A : Nat → Prop) (V : Nat → Int32) (G : Nat → Nat → Int32) (a1 : Int32) : Option Value → Heap → Prop := fun v H => ∃ (r : Int32) (V1 : Nat → Int32), v = some (.int r) ∧ ((badN a1 1 10 = some r ∧ ∀ j, V1 j = V j) ∨ (badN a1 1 10 = none ∧ r = V 5 ∧ V1 5 = a1 ∧ ∀ j, j ≠ 5 → V1 j = V j)) ∧ Mw dC dI h0 R A V1 G H
set_option maxHeartbeats 8000000 in
set_option maxRecDepth 20000 in
theorem q_X4_limit (l : Launch) (dC : Nat → ClassId) (dI : Nat → Nat → Nat) (h0 : Nat) (R : Nat → Nat) (A : Nat → Prop) (V : Nat → Int32) (G : Nat → Nat → Int32) (a1 : Int32) : Met l yX4_limit (cws yX4_limit cX4_limit 3 (some .int)) { frames := 1, cells := 0, slots := 0, locals := 21 } (va_Pc [.ref h0, .int a1] (fun U => Kt dC dI U ∧ Mw dC dI h0 R A V G U.heap)) (Qg (B_q_X4_limit dC dI h0 R A V G a1) A) 0 0 A := by
  refine m_start (KK := Kt dC dI) (Pw := Mw dC dI h0 R A V G) (by decide) (Nat.le_of_ble_eq_true rfl) ?_
  intro p e s m below meth c ls S hr hlocks hin hK hW hS hl
  obtain ⟨hx, hb, hml, hown, hts⟩ := id S
  have hl : lv_has ls 3 [(0, .ref h0), (1, .int a1)] := hl
  refine lv_iload_n hx hb dX4_limit_0 rfl (lv_at hl 1 rfl) ?_
  refine lv_iconst (v := 1) hx hb dX4_limit_1 (by decide) ?_
  refine lv_icmp_ge (tgt := 12) hx hb dX4_limit_2 (by decide) (fun c_1 => ?_) (fun c_1 => ?_)
  · skip
    have i_1 : a1.toInt ≥ 1 := by have h9 := pz_ge c_1; exact h9
    refine lv_iload_n hx hb dX4_limit_12 rfl (lv_at hl 1 rfl) ?_
    refine lv_bipush (v := 10) hx hb dX4_limit_13 (by decide) ?_
    refine lv_icmp_le (tgt := 25) hx hb dX4_limit_15 (by decide) (fun c_2 => ?_) (fun c_2 => ?_)
    · skip
      have i_2 : a1.toInt ≤ 10 := by have h9 := pz_le c_2; exact h9
      refine lv_aload_n hx hb dX4_limit_25 rfl (lv_at hl 0 rfl) ?_
      refine M_g5 S hK hW dX4_limit_26 (fun x_3 hx_3 => ?_)
      refine lv_istore_n (lv' := [(2, .int x_3), (0, .ref h0), (1, .int a1)]) hx hb dX4_limit_29 rfl hl (by decide) rfl (fun ls hl => ?_)
      refine lv_aload_n hx hb dX4_limit_30 rfl (lv_at hl 1 rfl) ?_
      refine lv_iload_n hx hb dX4_limit_31 rfl (lv_at hl 2 rfl) ?_
      refine M_p5 S hK hW hS dX4_limit_32 (fun H locs V_4 v1_4 v2_4 hW hS => ?_)
      refine lv_iload_n hx hb dX4_limit_35 rfl (lv_at hl 0 rfl) ?_
      exact r_i (v := x_3) hx hb hr hlocks hS dX4_limit_36 (⟨_, _, rfl, Or.inr ⟨by unfold badN; (repeat' split) <;> first | rfl | (exfalso; omega), hx_3, v1_4, v2_4⟩, hW⟩)
    · skip
      have i_2 : a1.toInt > 10 := by have h9 := pz_nle c_2; exact h9
      refine lv_aload_n hx hb dX4_limit_18 rfl (lv_at hl 0 rfl) ?_
      refine lv_bipush (v := (-6)) hx hb dX4_limit_19 (by decide) ?_
      refine c_v (n := 1) (As := [.int (-6)]) (rest := []) S (q_X4_refuse l dC dI h0 R A V G (-6) (by unfold vp_in; decide)) iw_787 iw_784 iw_786 iw_33 iw_61 (by decide +kernel) rfl ⟨rfl, rfl, Nat.le_of_ble_eq_true rfl, Nat.le_of_ble_eq_true rfl⟩ Kt.blind (M_recv hK hW) hK.at hW hl.1 rfl (by decide) dX4_limit_21 ⟨Nat.le_refl _, Nat.le_refl _⟩ hS (fun _ h9 => h9) (fun v9 H locs hB hz9 hk9 hS => ?_)
      refine W.widen (k := 0) (n := 0) (Nat.le_refl 0) (Nat.le_refl 0) ?_
      obtain ⟨_, rfl, rfl, hW⟩ := hB
      refine W.eq (g2 := F0 m 24 ls [.int (-6)]) rfl ?_
      exact r_i (v := (-6)) hx hb hr hlocks hS dX4_limit_24 (⟨_, V, rfl, Or.inl ⟨by unfold badN; (repeat' split) <;> first | rfl | (exfalso; omega), fun _ => rfl⟩, hW⟩)
  · skip
    have i_1 : a1.toInt < 1 := by have h9 := pz_nge c_1; exact h9
    refine lv_aload_n hx hb dX4_limit_5 rfl (lv_at hl 0 rfl) ?_
    refine lv_bipush (v := (-4)) hx hb dX4_limit_6 (by decide) ?_
    refine c_v (n := 1) (As := [.int (-4)]) (rest := []) S (q_X4_refuse l dC dI h0 R A V G (-4) (by unfold vp_in; decide)) iw_787 iw_784 iw_786 iw_33 iw_61 (by decide +kernel) rfl ⟨rfl, rfl, Nat.le_of_ble_eq_true rfl, Nat.le_of_ble_eq_true rfl⟩ Kt.blind (M_recv hK hW) hK.at hW hl.1 rfl (by decide) dX4_limit_8 ⟨Nat.le_refl _, Nat.le_refl _⟩ hS (fun _ h9 => h9) (fun v9 H locs hB hz9 hk9 hS => ?_)
    refine W.widen (k := 0) (n := 0) (Nat.le_refl 0) (Nat.le_refl 0) ?_
    obtain ⟨_, rfl, rfl, hW⟩ := hB
    refine W.eq (g2 := F0 m 11 ls [.int (-4)]) rfl ?_
    exact r_i (v := (-4)) hx hb hr hlocks hS dX4_limit_11 (⟨_, V, rfl, Or.inl ⟨by unfold badN; (repeat' split) <;> first | rfl | (exfalso; omega), fun _ => rfl⟩, hW⟩)

abbrev B_q_X4_budget (dC : Nat → ClassId) (dI : Nat → Nat → Nat) (h0 : Nat) (R : Nat → Nat) (A : Nat → Prop) (V : Nat → Int32) (G : Nat → Nat → Int32) (a1 : Int32) : Option Value → Heap → Prop := fun v H => ∃ (r : Int32) (V1 : Nat → Int32), v = some (.int r) ∧ ((badN a1 0 100 = some r ∧ ∀ j, V1 j = V j) ∨ (badN a1 0 100 = none ∧ r = V 6 ∧ V1 6 = a1 ∧ ∀ j, j ≠ 6 → V1 j = V j)) ∧ Mw dC dI h0 R A V1 G H
set_option maxHeartbeats 8000000 in
set_option maxRecDepth 20000 in
theorem q_X4_budget (l : Launch) (dC : Nat → ClassId) (dI : Nat → Nat → Nat) (h0 : Nat) (R : Nat → Nat) (A : Nat → Prop) (V : Nat → Int32) (G : Nat → Nat → Int32) (a1 : Int32) : Met l yX4_budget (cws yX4_budget cX4_budget 3 (some .int)) { frames := 1, cells := 0, slots := 0, locals := 21 } (va_Pc [.ref h0, .int a1] (fun U => Kt dC dI U ∧ Mw dC dI h0 R A V G U.heap)) (Qg (B_q_X4_budget dC dI h0 R A V G a1) A) 0 0 A := by
  refine m_start (KK := Kt dC dI) (Pw := Mw dC dI h0 R A V G) (by decide) (Nat.le_of_ble_eq_true rfl) ?_
  intro p e s m below meth c ls S hr hlocks hin hK hW hS hl
  obtain ⟨hx, hb, hml, hown, hts⟩ := id S
  have hl : lv_has ls 3 [(0, .ref h0), (1, .int a1)] := hl
  refine lv_iload_n hx hb dX4_budget_0 rfl (lv_at hl 1 rfl) ?_
  refine lv_if_ge (tgt := 11) hx hb dX4_budget_1 (by decide) (fun c_1 => ?_) (fun c_1 => ?_)
  · skip
    have i_1 : a1.toInt ≥ 0 := by have h9 := pz_ge c_1; exact h9
    refine lv_iload_n hx hb dX4_budget_11 rfl (lv_at hl 1 rfl) ?_
    refine lv_bipush (v := 100) hx hb dX4_budget_12 (by decide) ?_
    refine lv_icmp_le (tgt := 24) hx hb dX4_budget_14 (by decide) (fun c_2 => ?_) (fun c_2 => ?_)
    · skip
      have i_2 : a1.toInt ≤ 100 := by have h9 := pz_le c_2; exact h9
      refine lv_aload_n hx hb dX4_budget_24 rfl (lv_at hl 0 rfl) ?_
      refine M_g6 S hK hW dX4_budget_25 (fun x_3 hx_3 => ?_)
      refine lv_istore_n (lv' := [(2, .int x_3), (0, .ref h0), (1, .int a1)]) hx hb dX4_budget_28 rfl hl (by decide) rfl (fun ls hl => ?_)
      refine lv_aload_n hx hb dX4_budget_29 rfl (lv_at hl 1 rfl) ?_
      refine lv_iload_n hx hb dX4_budget_30 rfl (lv_at hl 2 rfl) ?_
      refine M_p6 S hK hW hS dX4_budget_31 (fun H locs V_4 v1_4 v2_4 hW hS => ?_)
      refine lv_iload_n hx hb dX4_budget_34 rfl (lv_at hl 0 rfl) ?_
      exact r_i (v := x_3) hx hb hr hlocks hS dX4_budget_35 (⟨_, _, rfl, Or.inr ⟨by unfold badN; (repeat' split) <;> first | rfl | (exfalso; omega), hx_3, v1_4, v2_4⟩, hW⟩)
    · skip
      have i_2 : a1.toInt > 100 := by have h9 := pz_nle c_2; exact h9
      refine lv_aload_n hx hb dX4_budget_17 rfl (lv_at hl 0 rfl) ?_
      refine lv_bipush (v := (-6)) hx hb dX4_budget_18 (by decide) ?_
      refine c_v (n := 1) (As := [.int (-6)]) (rest := []) S (q_X4_refuse l dC dI h0 R A V G (-6) (by unfold vp_in; decide)) iw_787 iw_784 iw_786 iw_33 iw_61 (by decide +kernel) rfl ⟨rfl, rfl, Nat.le_of_ble_eq_true rfl, Nat.le_of_ble_eq_true rfl⟩ Kt.blind (M_recv hK hW) hK.at hW hl.1 rfl (by decide) dX4_budget_20 ⟨Nat.le_refl _, Nat.le_refl _⟩ hS (fun _ h9 => h9) (fun v9 H locs hB hz9 hk9 hS => ?_)
      refine W.widen (k := 0) (n := 0) (Nat.le_refl 0) (Nat.le_refl 0) ?_
      obtain ⟨_, rfl, rfl, hW⟩ := hB
      refine W.eq (g2 := F0 m 23 ls [.int (-6)]) rfl ?_
      exact r_i (v := (-6)) hx hb hr hlocks hS dX4_budget_23 (⟨_, V, rfl, Or.inl ⟨by unfold badN; (repeat' split) <;> first | rfl | (exfalso; omega), fun _ => rfl⟩, hW⟩)
  · skip
    have i_1 : a1.toInt < 0 := by have h9 := pz_nge c_1; exact h9
    refine lv_aload_n hx hb dX4_budget_4 rfl (lv_at hl 0 rfl) ?_
    refine lv_bipush (v := (-4)) hx hb dX4_budget_5 (by decide) ?_
    refine c_v (n := 1) (As := [.int (-4)]) (rest := []) S (q_X4_refuse l dC dI h0 R A V G (-4) (by unfold vp_in; decide)) iw_787 iw_784 iw_786 iw_33 iw_61 (by decide +kernel) rfl ⟨rfl, rfl, Nat.le_of_ble_eq_true rfl, Nat.le_of_ble_eq_true rfl⟩ Kt.blind (M_recv hK hW) hK.at hW hl.1 rfl (by decide) dX4_budget_7 ⟨Nat.le_refl _, Nat.le_refl _⟩ hS (fun _ h9 => h9) (fun v9 H locs hB hz9 hk9 hS => ?_)
    refine W.widen (k := 0) (n := 0) (Nat.le_refl 0) (Nat.le_refl 0) ?_
    obtain ⟨_, rfl, rfl, hW⟩ := hB
    refine W.eq (g2 := F0 m 10 ls [.int (-4)]) rfl ?_
    exact r_i (v := (-4)) hx hb hr hlocks hS dX4_budget_10 (⟨_, V, rfl, Or.inl ⟨by unfold badN; (repeat' split) <;> first | rfl | (exfalso; omega), fun _ => rfl⟩, hW⟩)

abbrev B_q_X4_hedge (dC : Nat → ClassId) (dI : Nat → Nat → Nat) (h0 : Nat) (R : Nat → Nat) (A : Nat → Prop) (V : Nat → Int32) (G : Nat → Nat → Int32) (a1 : Int32) : Option Value → Heap → Prop := fun v H => ∃ (r : Int32) (V1 : Nat → Int32), v = some (.int r) ∧ ((badN a1 0 500 = some r ∧ ∀ j, V1 j = V j) ∨ (badN a1 0 500 = none ∧ r = V 7 ∧ V1 7 = a1 ∧ ∀ j, j ≠ 7 → V1 j = V j)) ∧ Mw dC dI h0 R A V1 G H
set_option maxHeartbeats 8000000 in
set_option maxRecDepth 20000 in
theorem q_X4_hedge (l : Launch) (dC : Nat → ClassId) (dI : Nat → Nat → Nat) (h0 : Nat) (R : Nat → Nat) (A : Nat → Prop) (V : Nat → Int32) (G : Nat → Nat → Int32) (a1 : Int32) : Met l yX4_hedge (cws yX4_hedge cX4_hedge 3 (some .int)) { frames := 1, cells := 0, slots := 0, locals := 21 } (va_Pc [.ref h0, .int a1] (fun U => Kt dC dI U ∧ Mw dC dI h0 R A V G U.heap)) (Qg (B_q_X4_hedge dC dI h0 R A V G a1) A) 0 0 A := by
  refine m_start (KK := Kt dC dI) (Pw := Mw dC dI h0 R A V G) (by decide) (Nat.le_of_ble_eq_true rfl) ?_
  intro p e s m below meth c ls S hr hlocks hin hK hW hS hl
  obtain ⟨hx, hb, hml, hown, hts⟩ := id S
  have hl : lv_has ls 3 [(0, .ref h0), (1, .int a1)] := hl
  refine lv_iload_n hx hb dX4_hedge_0 rfl (lv_at hl 1 rfl) ?_
  refine lv_if_ge (tgt := 11) hx hb dX4_hedge_1 (by decide) (fun c_1 => ?_) (fun c_1 => ?_)
  · skip
    have i_1 : a1.toInt ≥ 0 := by have h9 := pz_ge c_1; exact h9
    refine lv_iload_n hx hb dX4_hedge_11 rfl (lv_at hl 1 rfl) ?_
    refine lv_sipush (v := 500) hx hb dX4_hedge_12 (by decide) ?_
    refine lv_icmp_le (tgt := 25) hx hb dX4_hedge_15 (by decide) (fun c_2 => ?_) (fun c_2 => ?_)
    · skip
      have i_2 : a1.toInt ≤ 500 := by have h9 := pz_le c_2; exact h9
      refine lv_aload_n hx hb dX4_hedge_25 rfl (lv_at hl 0 rfl) ?_
      refine M_g7 S hK hW dX4_hedge_26 (fun x_3 hx_3 => ?_)
      refine lv_istore_n (lv' := [(2, .int x_3), (0, .ref h0), (1, .int a1)]) hx hb dX4_hedge_29 rfl hl (by decide) rfl (fun ls hl => ?_)
      refine lv_aload_n hx hb dX4_hedge_30 rfl (lv_at hl 1 rfl) ?_
      refine lv_iload_n hx hb dX4_hedge_31 rfl (lv_at hl 2 rfl) ?_
      refine M_p7 S hK hW hS dX4_hedge_32 (fun H locs V_4 v1_4 v2_4 hW hS => ?_)
      refine lv_iload_n hx hb dX4_hedge_35 rfl (lv_at hl 0 rfl) ?_
      exact r_i (v := x_3) hx hb hr hlocks hS dX4_hedge_36 (⟨_, _, rfl, Or.inr ⟨by unfold badN; (repeat' split) <;> first | rfl | (exfalso; omega), hx_3, v1_4, v2_4⟩, hW⟩)
    · skip
      have i_2 : a1.toInt > 500 := by have h9 := pz_nle c_2; exact h9
      refine lv_aload_n hx hb dX4_hedge_18 rfl (lv_at hl 0 rfl) ?_
      refine lv_bipush (v := (-6)) hx hb dX4_hedge_19 (by decide) ?_
      refine c_v (n := 1) (As := [.int (-6)]) (rest := []) S (q_X4_refuse l dC dI h0 R A V G (-6) (by unfold vp_in; decide)) iw_787 iw_784 iw_786 iw_33 iw_61 (by decide +kernel) rfl ⟨rfl, rfl, Nat.le_of_ble_eq_true rfl, Nat.le_of_ble_eq_true rfl⟩ Kt.blind (M_recv hK hW) hK.at hW hl.1 rfl (by decide) dX4_hedge_21 ⟨Nat.le_refl _, Nat.le_refl _⟩ hS (fun _ h9 => h9) (fun v9 H locs hB hz9 hk9 hS => ?_)
      refine W.widen (k := 0) (n := 0) (Nat.le_refl 0) (Nat.le_refl 0) ?_
      obtain ⟨_, rfl, rfl, hW⟩ := hB
      refine W.eq (g2 := F0 m 24 ls [.int (-6)]) rfl ?_
      exact r_i (v := (-6)) hx hb hr hlocks hS dX4_hedge_24 (⟨_, V, rfl, Or.inl ⟨by unfold badN; (repeat' split) <;> first | rfl | (exfalso; omega), fun _ => rfl⟩, hW⟩)
  · skip
    have i_1 : a1.toInt < 0 := by have h9 := pz_nge c_1; exact h9
    refine lv_aload_n hx hb dX4_hedge_4 rfl (lv_at hl 0 rfl) ?_
    refine lv_bipush (v := (-4)) hx hb dX4_hedge_5 (by decide) ?_
    refine c_v (n := 1) (As := [.int (-4)]) (rest := []) S (q_X4_refuse l dC dI h0 R A V G (-4) (by unfold vp_in; decide)) iw_787 iw_784 iw_786 iw_33 iw_61 (by decide +kernel) rfl ⟨rfl, rfl, Nat.le_of_ble_eq_true rfl, Nat.le_of_ble_eq_true rfl⟩ Kt.blind (M_recv hK hW) hK.at hW hl.1 rfl (by decide) dX4_hedge_7 ⟨Nat.le_refl _, Nat.le_refl _⟩ hS (fun _ h9 => h9) (fun v9 H locs hB hz9 hk9 hS => ?_)
    refine W.widen (k := 0) (n := 0) (Nat.le_refl 0) (Nat.le_refl 0) ?_
    obtain ⟨_, rfl, rfl, hW⟩ := hB
    refine W.eq (g2 := F0 m 10 ls [.int (-4)]) rfl ?_
    exact r_i (v := (-4)) hx hb hr hlocks hS dX4_hedge_10 (⟨_, V, rfl, Or.inl ⟨by unfold badN; (repeat' split) <;> first | rfl | (exfalso; omega), fun _ => rfl⟩, hW⟩)

abbrev B_q_X4_server (dC : Nat → ClassId) (dI : Nat → Nat → Nat) (h0 : Nat) (R : Nat → Nat) (A : Nat → Prop) (V : Nat → Int32) (G : Nat → Nat → Int32) (ns : Nat) (a1 : Int32) (a2 : Int32) (a3 : Int32) (a4 : Int32) (a5 : Int32) : Option Value → Heap → Prop := fun v H => ∃ (r : Int32) (V1 : Nat → Int32), v = some (.int r) ∧ ((badS ns a1 a2 a3 a4 a5 = some r ∧ ∀ j, V1 j = V j) ∨ (badS ns a1 a2 a3 a4 a5 = none ∧ r = nI ns ∧ V1 2 = nI (ns + 1) ∧ ∀ j, j ≠ 2 → V1 j = V j)) ∧ Mw dC dI h0 R A V1 G H
set_option maxHeartbeats 8000000 in
set_option maxRecDepth 20000 in
theorem q_X4_server (l : Launch) (dC : Nat → ClassId) (dI : Nat → Nat → Nat) (h0 : Nat) (R : Nat → Nat) (A : Nat → Prop) (V : Nat → Int32) (G : Nat → Nat → Int32) (ns : Nat) (a1 : Int32) (a2 : Int32) (a3 : Int32) (a4 : Int32) (a5 : Int32) (hV2 : V 2 = nI ns) (hns : ns ≤ 8) : Met l yX4_server (cws yX4_server cX4_server 7 (some .int)) { frames := 1, cells := 0, slots := 0, locals := 21 } (va_Pc [.ref h0, .int a1, .int a2, .int a3, .int a4, .int a5] (fun U => Kt dC dI U ∧ Mw dC dI h0 R A V G U.heap)) (Qg (B_q_X4_server dC dI h0 R A V G ns a1 a2 a3 a4 a5) A) 0 0 A := by
  refine m_start (KK := Kt dC dI) (Pw := Mw dC dI h0 R A V G) (by decide) (Nat.le_of_ble_eq_true rfl) ?_
  intro p e s m below meth c ls S hr hlocks hin hK hW hS hl
  obtain ⟨hx, hb, hml, hown, hts⟩ := id S
  have hl : lv_has ls 7 [(0, .ref h0), (1, .int a1), (2, .int a2), (3, .int a3), (4, .int a4), (5, .int a5)] := hl
  have en_s : (nI ns).toInt = ((ns : Nat) : Int) := pz_ti (by omega)
  refine lv_iload_n hx hb dX4_server_0 rfl (lv_at hl 2 rfl) ?_
  refine lv_iconst (v := 4) hx hb dX4_server_1 (by decide) ?_
  refine c_s (n := 2) (As := [.int a2, .int 4]) (rest := []) S (q_X4_isIn l A (Mw dC dI h0 R A V G) a2 4) iw_783 iw_781 iw_782 iw_61 (by decide +kernel) rfl ⟨rfl, rfl, Nat.le_of_ble_eq_true rfl, Nat.le_of_ble_eq_true rfl⟩ (fun _ _ _ _ _ => trivial) (fun _ _ _ => trivial) hW hl.1 rfl (by decide) dX4_server_2 ⟨Nat.le_refl _, Nat.le_refl _⟩ hS (fun _ h9 => h9) (fun v9 H locs hB hz9 hk9 hS => ?_)
  refine W.widen (k := 0) (n := 0) (Nat.le_refl 0) (Nat.le_refl 0) ?_
  obtain ⟨r_1, rfl, hr_1, hW⟩ := hB
  refine W.eq (g2 := F0 m 5 ls [.int r_1]) rfl ?_
  rcases hr_1 with ⟨ha_1, hb_1, rfl⟩ | ⟨ha_1, rfl⟩
  · skip
    have hb_1 : a2.toInt < 4 := by have h9 := hb_1; exact h9
    refine lv_if_ne (tgt := 14) hx hb dX4_server_5 (by decide) (fun c_2 => ?_) (fun c_2 => absurd c_2 (by decide))
    refine lv_iload_n hx hb dX4_server_14 rfl (lv_at hl 1 rfl) ?_
    refine lv_iconst (v := 1) hx hb dX4_server_15 (by decide) ?_
    refine lv_icmp_lt (tgt := 35) hx hb dX4_server_16 (by decide) (fun c_3 => ?_) (fun c_3 => ?_)
    · skip
      have i_3 : a1.toInt < 1 := by have h9 := pz_lt c_3; exact h9
      refine lv_aload_n hx hb dX4_server_35 rfl (lv_at hl 0 rfl) ?_
      refine lv_bipush (v := (-4)) hx hb dX4_server_36 (by decide) ?_
      refine c_v (n := 1) (As := [.int (-4)]) (rest := []) S (q_X4_refuse l dC dI h0 R A V G (-4) (by unfold vp_in; decide)) iw_787 iw_784 iw_786 iw_33 iw_61 (by decide +kernel) rfl ⟨rfl, rfl, Nat.le_of_ble_eq_true rfl, Nat.le_of_ble_eq_true rfl⟩ Kt.blind (M_recv hK hW) hK.at hW hl.1 rfl (by decide) dX4_server_38 ⟨Nat.le_refl _, Nat.le_refl _⟩ hS (fun _ h9 => h9) (fun v9 H locs hB hz9 hk9 hS => ?_)
      refine W.widen (k := 0) (n := 0) (Nat.le_refl 0) (Nat.le_refl 0) ?_
      obtain ⟨_, rfl, rfl, hW⟩ := hB
      refine W.eq (g2 := F0 m 41 ls [.int (-4)]) rfl ?_
      exact r_i (v := (-4)) hx hb hr hlocks hS dX4_server_41 (⟨_, V, rfl, Or.inl ⟨by unfold badS; (repeat' split) <;> first | rfl | (exfalso; omega), fun _ => rfl⟩, hW⟩)
    · skip
      have i_3 : a1.toInt ≥ 1 := by have h9 := pz_nlt c_3; exact h9
      refine lv_iload_n hx hb dX4_server_19 rfl (lv_at hl 3 rfl) ?_
      refine lv_iconst (v := 1) hx hb dX4_server_20 (by decide) ?_
      refine lv_icmp_lt (tgt := 35) hx hb dX4_server_21 (by decide) (fun c_5 => ?_) (fun c_5 => ?_)
      · skip
        have i_5 : a3.toInt < 1 := by have h9 := pz_lt c_5; exact h9
        refine lv_aload_n hx hb dX4_server_35 rfl (lv_at hl 0 rfl) ?_
        refine lv_bipush (v := (-4)) hx hb dX4_server_36 (by decide) ?_
        refine c_v (n := 1) (As := [.int (-4)]) (rest := []) S (q_X4_refuse l dC dI h0 R A V G (-4) (by unfold vp_in; decide)) iw_787 iw_784 iw_786 iw_33 iw_61 (by decide +kernel) rfl ⟨rfl, rfl, Nat.le_of_ble_eq_true rfl, Nat.le_of_ble_eq_true rfl⟩ Kt.blind (M_recv hK hW) hK.at hW hl.1 rfl (by decide) dX4_server_38 ⟨Nat.le_refl _, Nat.le_refl _⟩ hS (fun _ h9 => h9) (fun v9 H locs hB hz9 hk9 hS => ?_)
        refine W.widen (k := 0) (n := 0) (Nat.le_refl 0) (Nat.le_refl 0) ?_
        obtain ⟨_, rfl, rfl, hW⟩ := hB
        refine W.eq (g2 := F0 m 41 ls [.int (-4)]) rfl ?_
        exact r_i (v := (-4)) hx hb hr hlocks hS dX4_server_41 (⟨_, V, rfl, Or.inl ⟨by unfold badS; (repeat' split) <;> first | rfl | (exfalso; omega), fun _ => rfl⟩, hW⟩)
      · skip
        have i_5 : a3.toInt ≥ 1 := by have h9 := pz_nlt c_5; exact h9
        refine lv_iload hx hb dX4_server_24 (lv_at hl 4 rfl) ?_
        refine lv_iconst (v := 1) hx hb dX4_server_26 (by decide) ?_
        refine lv_icmp_lt (tgt := 35) hx hb dX4_server_27 (by decide) (fun c_7 => ?_) (fun c_7 => ?_)
        · skip
          have i_7 : a4.toInt < 1 := by have h9 := pz_lt c_7; exact h9
          refine lv_aload_n hx hb dX4_server_35 rfl (lv_at hl 0 rfl) ?_
          refine lv_bipush (v := (-4)) hx hb dX4_server_36 (by decide) ?_
          refine c_v (n := 1) (As := [.int (-4)]) (rest := []) S (q_X4_refuse l dC dI h0 R A V G (-4) (by unfold vp_in; decide)) iw_787 iw_784 iw_786 iw_33 iw_61 (by decide +kernel) rfl ⟨rfl, rfl, Nat.le_of_ble_eq_true rfl, Nat.le_of_ble_eq_true rfl⟩ Kt.blind (M_recv hK hW) hK.at hW hl.1 rfl (by decide) dX4_server_38 ⟨Nat.le_refl _, Nat.le_refl _⟩ hS (fun _ h9 => h9) (fun v9 H locs hB hz9 hk9 hS => ?_)
          refine W.widen (k := 0) (n := 0) (Nat.le_refl 0) (Nat.le_refl 0) ?_
          obtain ⟨_, rfl, rfl, hW⟩ := hB
          refine W.eq (g2 := F0 m 41 ls [.int (-4)]) rfl ?_
          exact r_i (v := (-4)) hx hb hr hlocks hS dX4_server_41 (⟨_, V, rfl, Or.inl ⟨by unfold badS; (repeat' split) <;> first | rfl | (exfalso; omega), fun _ => rfl⟩, hW⟩)
        · skip
          have i_7 : a4.toInt ≥ 1 := by have h9 := pz_nlt c_7; exact h9
          refine lv_iload hx hb dX4_server_30 (lv_at hl 5 rfl) ?_
          refine lv_if_ge (tgt := 42) hx hb dX4_server_32 (by decide) (fun c_9 => ?_) (fun c_9 => ?_)
          · skip
            have i_9 : a5.toInt ≥ 0 := by have h9 := pz_ge c_9; exact h9
            refine lv_iload_n hx hb dX4_server_42 rfl (lv_at hl 1 rfl) ?_
            refine lv_bipush (v := 100) hx hb dX4_server_43 (by decide) ?_
            refine lv_icmp_gt (tgt := 78) hx hb dX4_server_45 (by decide) (fun c_10 => ?_) (fun c_10 => ?_)
            · skip
              have i_10 : a1.toInt > 100 := by have h9 := pz_gt c_10; exact h9
              refine lv_aload_n hx hb dX4_server_78 rfl (lv_at hl 0 rfl) ?_
              refine lv_bipush (v := (-6)) hx hb dX4_server_79 (by decide) ?_
              refine c_v (n := 1) (As := [.int (-6)]) (rest := []) S (q_X4_refuse l dC dI h0 R A V G (-6) (by unfold vp_in; decide)) iw_787 iw_784 iw_786 iw_33 iw_61 (by decide +kernel) rfl ⟨rfl, rfl, Nat.le_of_ble_eq_true rfl, Nat.le_of_ble_eq_true rfl⟩ Kt.blind (M_recv hK hW) hK.at hW hl.1 rfl (by decide) dX4_server_81 ⟨Nat.le_refl _, Nat.le_refl _⟩ hS (fun _ h9 => h9) (fun v9 H locs hB hz9 hk9 hS => ?_)
              refine W.widen (k := 0) (n := 0) (Nat.le_refl 0) (Nat.le_refl 0) ?_
              obtain ⟨_, rfl, rfl, hW⟩ := hB
              refine W.eq (g2 := F0 m 84 ls [.int (-6)]) rfl ?_
              exact r_i (v := (-6)) hx hb hr hlocks hS dX4_server_84 (⟨_, V, rfl, Or.inl ⟨by unfold badS; (repeat' split) <;> first | rfl | (exfalso; omega), fun _ => rfl⟩, hW⟩)
            · skip
              have i_10 : a1.toInt ≤ 100 := by have h9 := pz_ngt c_10; exact h9
              refine lv_iload_n hx hb dX4_server_48 rfl (lv_at hl 3 rfl) ?_
              refine lv_bipush (v := 20) hx hb dX4_server_49 (by decide) ?_
              refine lv_icmp_gt (tgt := 78) hx hb dX4_server_51 (by decide) (fun c_12 => ?_) (fun c_12 => ?_)
              · skip
                have i_12 : a3.toInt > 20 := by have h9 := pz_gt c_12; exact h9
                refine lv_aload_n hx hb dX4_server_78 rfl (lv_at hl 0 rfl) ?_
                refine lv_bipush (v := (-6)) hx hb dX4_server_79 (by decide) ?_
                refine c_v (n := 1) (As := [.int (-6)]) (rest := []) S (q_X4_refuse l dC dI h0 R A V G (-6) (by unfold vp_in; decide)) iw_787 iw_784 iw_786 iw_33 iw_61 (by decide +kernel) rfl ⟨rfl, rfl, Nat.le_of_ble_eq_true rfl, Nat.le_of_ble_eq_true rfl⟩ Kt.blind (M_recv hK hW) hK.at hW hl.1 rfl (by decide) dX4_server_81 ⟨Nat.le_refl _, Nat.le_refl _⟩ hS (fun _ h9 => h9) (fun v9 H locs hB hz9 hk9 hS => ?_)
                refine W.widen (k := 0) (n := 0) (Nat.le_refl 0) (Nat.le_refl 0) ?_
                obtain ⟨_, rfl, rfl, hW⟩ := hB
                refine W.eq (g2 := F0 m 84 ls [.int (-6)]) rfl ?_
                exact r_i (v := (-6)) hx hb hr hlocks hS dX4_server_84 (⟨_, V, rfl, Or.inl ⟨by unfold badS; (repeat' split) <;> first | rfl | (exfalso; omega), fun _ => rfl⟩, hW⟩)
              · skip
                have i_12 : a3.toInt ≤ 20 := by have h9 := pz_ngt c_12; exact h9
                refine lv_iload hx hb dX4_server_54 (lv_at hl 4 rfl) ?_
                refine lv_sipush (v := 200) hx hb dX4_server_56 (by decide) ?_
                refine lv_icmp_gt (tgt := 78) hx hb dX4_server_59 (by decide) (fun c_14 => ?_) (fun c_14 => ?_)
                · skip
                  have i_14 : a4.toInt > 200 := by have h9 := pz_gt c_14; exact h9
                  refine lv_aload_n hx hb dX4_server_78 rfl (lv_at hl 0 rfl) ?_
                  refine lv_bipush (v := (-6)) hx hb dX4_server_79 (by decide) ?_
                  refine c_v (n := 1) (As := [.int (-6)]) (rest := []) S (q_X4_refuse l dC dI h0 R A V G (-6) (by unfold vp_in; decide)) iw_787 iw_784 iw_786 iw_33 iw_61 (by decide +kernel) rfl ⟨rfl, rfl, Nat.le_of_ble_eq_true rfl, Nat.le_of_ble_eq_true rfl⟩ Kt.blind (M_recv hK hW) hK.at hW hl.1 rfl (by decide) dX4_server_81 ⟨Nat.le_refl _, Nat.le_refl _⟩ hS (fun _ h9 => h9) (fun v9 H locs hB hz9 hk9 hS => ?_)
                  refine W.widen (k := 0) (n := 0) (Nat.le_refl 0) (Nat.le_refl 0) ?_
                  obtain ⟨_, rfl, rfl, hW⟩ := hB
                  refine W.eq (g2 := F0 m 84 ls [.int (-6)]) rfl ?_
                  exact r_i (v := (-6)) hx hb hr hlocks hS dX4_server_84 (⟨_, V, rfl, Or.inl ⟨by unfold badS; (repeat' split) <;> first | rfl | (exfalso; omega), fun _ => rfl⟩, hW⟩)
                · skip
                  have i_14 : a4.toInt ≤ 200 := by have h9 := pz_ngt c_14; exact h9
                  refine lv_iload hx hb dX4_server_62 (lv_at hl 5 rfl) ?_
                  refine lv_bipush (v := 20) hx hb dX4_server_64 (by decide) ?_
                  refine lv_icmp_gt (tgt := 78) hx hb dX4_server_66 (by decide) (fun c_16 => ?_) (fun c_16 => ?_)
                  · skip
                    have i_16 : a5.toInt > 20 := by have h9 := pz_gt c_16; exact h9
                    refine lv_aload_n hx hb dX4_server_78 rfl (lv_at hl 0 rfl) ?_
                    refine lv_bipush (v := (-6)) hx hb dX4_server_79 (by decide) ?_
                    refine c_v (n := 1) (As := [.int (-6)]) (rest := []) S (q_X4_refuse l dC dI h0 R A V G (-6) (by unfold vp_in; decide)) iw_787 iw_784 iw_786 iw_33 iw_61 (by decide +kernel) rfl ⟨rfl, rfl, Nat.le_of_ble_eq_true rfl, Nat.le_of_ble_eq_true rfl⟩ Kt.blind (M_recv hK hW) hK.at hW hl.1 rfl (by decide) dX4_server_81 ⟨Nat.le_refl _, Nat.le_refl _⟩ hS (fun _ h9 => h9) (fun v9 H locs hB hz9 hk9 hS => ?_)
                    refine W.widen (k := 0) (n := 0) (Nat.le_refl 0) (Nat.le_refl 0) ?_
                    obtain ⟨_, rfl, rfl, hW⟩ := hB
                    refine W.eq (g2 := F0 m 84 ls [.int (-6)]) rfl ?_
                    exact r_i (v := (-6)) hx hb hr hlocks hS dX4_server_84 (⟨_, V, rfl, Or.inl ⟨by unfold badS; (repeat' split) <;> first | rfl | (exfalso; omega), fun _ => rfl⟩, hW⟩)
                  · skip
                    have i_16 : a5.toInt ≤ 20 := by have h9 := pz_ngt c_16; exact h9
                    refine lv_aload_n hx hb dX4_server_69 rfl (lv_at hl 0 rfl) ?_
                    refine M_g2 S hK hW dX4_server_70 (fun x_18 hx_18 => ?_)
                    obtain rfl : x_18 = nI ns := hx_18.trans hV2
                    refine lv_bipush (v := 8) hx hb dX4_server_73 (by decide) ?_
                    refine lv_icmp_ne (tgt := 85) hx hb dX4_server_75 (by decide) (fun c_19 => ?_) (fun c_19 => ?_)
                    · skip
                      have i_19 : ¬ (nI ns).toInt = 8 := by have h9 := pz_neq c_19; exact h9
                      refine lv_aload_n hx hb dX4_server_85 rfl (lv_at hl 0 rfl) ?_
                      refine M_g2 S hK hW dX4_server_86 (fun x_20 hx_20 => ?_)
                      obtain rfl : x_20 = nI ns := hx_20.trans hV2
                      refine lv_istore (lv' := [(6, .int (nI ns)), (0, .ref h0), (1, .int a1), (2, .int a2), (3, .int a3), (4, .int a4), (5, .int a5)]) hx hb dX4_server_89 hl (by decide) rfl (fun ls hl => ?_)
                      refine lv_aload_n hx hb dX4_server_91 rfl (lv_at hl 1 rfl) ?_
                      refine lv_dup hx hb dX4_server_92 rfl ?_
                      refine M_g2 S hK hW dX4_server_93 (fun x_21 hx_21 => ?_)
                      obtain rfl : x_21 = nI ns := hx_21.trans hV2
                      refine lv_iconst (v := 1) hx hb dX4_server_96 (by decide) ?_
                      refine lv_iadd hx hb dX4_server_97 ?_
                      refine lv_topi (fun x_22 ex_22 => ?_)
                      obtain rfl : x_22 = nI (ns + 1) := ex_22.trans (nI_add ns 1)
                      have en_23 : (nI (ns + 1)).toInt = ((ns + 1 : Nat) : Int) := pz_ti (by omega)
                      refine M_p2 S hK hW hS dX4_server_98 (fun H locs V_24 v1_24 v2_24 hW hS => ?_)
                      have hV2 : V_24 2 = nI (ns + 1) := v1_24
                      refine lv_aload_n hx hb dX4_server_101 rfl (lv_at hl 1 rfl) ?_
                      refine M_g11 S hK hW dX4_server_102 ?_
                      refine lv_iload hx hb dX4_server_105 (lv_at hl 0 rfl) ?_
                      refine lv_iload_n hx hb dX4_server_107 rfl (lv_at hl 2 rfl) ?_
                      refine mw_su S hK hW hS 11 rfl rfl rfl (pz_vi (n := mN 11) (by rw [show mN 11 = 8 from rfl]; omega) (by decide)) dX4_server_108 (fun H locs hW hS => ?_)
                      refine lv_aload_n hx hb dX4_server_109 rfl (lv_at hl 1 rfl) ?_
                      refine M_g12 S hK hW dX4_server_110 ?_
                      refine lv_iload hx hb dX4_server_113 (lv_at hl 0 rfl) ?_
                      refine lv_iload_n hx hb dX4_server_115 rfl (lv_at hl 3 rfl) ?_
                      refine mw_su S hK hW hS 12 rfl rfl rfl (pz_vi (n := mN 12) (by rw [show mN 12 = 8 from rfl]; omega) (by decide)) dX4_server_116 (fun H locs hW hS => ?_)
                      refine lv_aload_n hx hb dX4_server_117 rfl (lv_at hl 1 rfl) ?_
                      refine M_g13 S hK hW dX4_server_118 ?_
                      refine lv_iload hx hb dX4_server_121 (lv_at hl 0 rfl) ?_
                      refine lv_iload_n hx hb dX4_server_123 rfl (lv_at hl 4 rfl) ?_
                      refine mw_su S hK hW hS 13 rfl rfl rfl (pz_vi (n := mN 13) (by rw [show mN 13 = 8 from rfl]; omega) (by decide)) dX4_server_124 (fun H locs hW hS => ?_)
                      refine lv_aload_n hx hb dX4_server_125 rfl (lv_at hl 1 rfl) ?_
                      refine M_g14 S hK hW dX4_server_126 ?_
                      refine lv_iload hx hb dX4_server_129 (lv_at hl 0 rfl) ?_
                      refine lv_iload hx hb dX4_server_131 (lv_at hl 5 rfl) ?_
                      refine mw_su S hK hW hS 14 rfl rfl rfl (pz_vi (n := mN 14) (by rw [show mN 14 = 8 from rfl]; omega) (by decide)) dX4_server_133 (fun H locs hW hS => ?_)
                      refine lv_aload_n hx hb dX4_server_134 rfl (lv_at hl 1 rfl) ?_
                      refine M_g15 S hK hW dX4_server_135 ?_
                      refine lv_iload hx hb dX4_server_138 (lv_at hl 0 rfl) ?_
                      refine lv_iload hx hb dX4_server_140 (lv_at hl 6 rfl) ?_
                      refine mw_su S hK hW hS 15 rfl rfl rfl (pz_vi (n := mN 15) (by rw [show mN 15 = 8 from rfl]; omega) (by decide)) dX4_server_142 (fun H locs hW hS => ?_)
                      refine lv_aload_n hx hb dX4_server_143 rfl (lv_at hl 1 rfl) ?_
                      refine M_g24 S hK hW dX4_server_144 ?_
                      refine lv_iload hx hb dX4_server_147 (lv_at hl 0 rfl) ?_
                      refine lv_bipush (v := 10) hx hb dX4_server_149 (by decide) ?_
                      refine mw_su S hK hW hS 24 rfl rfl rfl (pz_vi (n := mN 24) (by rw [show mN 24 = 8 from rfl]; omega) (by decide)) dX4_server_151 (fun H locs hW hS => ?_)
                      refine lv_iload hx hb dX4_server_152 (lv_at hl 0 rfl) ?_
                      exact r_i (v := (nI ns)) hx hb hr hlocks hS dX4_server_154 (⟨_, _, rfl, Or.inr ⟨by unfold badS; (repeat' split) <;> first | rfl | (exfalso; omega), rfl, v1_24, v2_24⟩, hW⟩)
                    · skip
                      have i_19 : (nI ns).toInt = 8 := by have h9 := pz_eq c_19; exact h9
                      refine lv_aload_n hx hb dX4_server_78 rfl (lv_at hl 0 rfl) ?_
                      refine lv_bipush (v := (-6)) hx hb dX4_server_79 (by decide) ?_
                      refine c_v (n := 1) (As := [.int (-6)]) (rest := []) S (q_X4_refuse l dC dI h0 R A V G (-6) (by unfold vp_in; decide)) iw_787 iw_784 iw_786 iw_33 iw_61 (by decide +kernel) rfl ⟨rfl, rfl, Nat.le_of_ble_eq_true rfl, Nat.le_of_ble_eq_true rfl⟩ Kt.blind (M_recv hK hW) hK.at hW hl.1 rfl (by decide) dX4_server_81 ⟨Nat.le_refl _, Nat.le_refl _⟩ hS (fun _ h9 => h9) (fun v9 H locs hB hz9 hk9 hS => ?_)
                      refine W.widen (k := 0) (n := 0) (Nat.le_refl 0) (Nat.le_refl 0) ?_
                      obtain ⟨_, rfl, rfl, hW⟩ := hB
                      refine W.eq (g2 := F0 m 84 ls [.int (-6)]) rfl ?_
                      exact r_i (v := (-6)) hx hb hr hlocks hS dX4_server_84 (⟨_, V, rfl, Or.inl ⟨by unfold badS; (repeat' split) <;> first | rfl | (exfalso; omega), fun _ => rfl⟩, hW⟩)
          · skip
            have i_9 : a5.toInt < 0 := by have h9 := pz_nge c_9; exact h9
            refine lv_aload_n hx hb dX4_server_35 rfl (lv_at hl 0 rfl) ?_
            refine lv_bipush (v := (-4)) hx hb dX4_server_36 (by decide) ?_
            refine c_v (n := 1) (As := [.int (-4)]) (rest := []) S (q_X4_refuse l dC dI h0 R A V G (-4) (by unfold vp_in; decide)) iw_787 iw_784 iw_786 iw_33 iw_61 (by decide +kernel) rfl ⟨rfl, rfl, Nat.le_of_ble_eq_true rfl, Nat.le_of_ble_eq_true rfl⟩ Kt.blind (M_recv hK hW) hK.at hW hl.1 rfl (by decide) dX4_server_38 ⟨Nat.le_refl _, Nat.le_refl _⟩ hS (fun _ h9 => h9) (fun v9 H locs hB hz9 hk9 hS => ?_)
            refine W.widen (k := 0) (n := 0) (Nat.le_refl 0) (Nat.le_refl 0) ?_
            obtain ⟨_, rfl, rfl, hW⟩ := hB
            refine W.eq (g2 := F0 m 41 ls [.int (-4)]) rfl ?_
            exact r_i (v := (-4)) hx hb hr hlocks hS dX4_server_41 (⟨_, V, rfl, Or.inl ⟨by unfold badS; (repeat' split) <;> first | rfl | (exfalso; omega), fun _ => rfl⟩, hW⟩)
  · skip
    have ha_1 : a2.toInt < 0 ∨ 4 ≤ a2.toInt := by have h9 := ha_1; exact h9
    refine lv_if_ne (tgt := 14) hx hb dX4_server_5 (by decide) (fun c_27 => absurd c_27 (by decide)) (fun c_27 => ?_)
    refine lv_aload_n hx hb dX4_server_8 rfl (lv_at hl 0 rfl) ?_
    refine lv_iconst (v := (-1)) hx hb dX4_server_9 (by decide) ?_
    refine c_v (n := 1) (As := [.int (-1)]) (rest := []) S (q_X4_refuse l dC dI h0 R A V G (-1) (by unfold vp_in; decide)) iw_787 iw_784 iw_786 iw_33 iw_61 (by decide +kernel) rfl ⟨rfl, rfl, Nat.le_of_ble_eq_true rfl, Nat.le_of_ble_eq_true rfl⟩ Kt.blind (M_recv hK hW) hK.at hW hl.1 rfl (by decide) dX4_server_10 ⟨Nat.le_refl _, Nat.le_refl _⟩ hS (fun _ h9 => h9) (fun v9 H locs hB hz9 hk9 hS => ?_)
    refine W.widen (k := 0) (n := 0) (Nat.le_refl 0) (Nat.le_refl 0) ?_
    obtain ⟨_, rfl, rfl, hW⟩ := hB
    refine W.eq (g2 := F0 m 13 ls [.int (-1)]) rfl ?_
    exact r_i (v := (-1)) hx hb hr hlocks hS dX4_server_13 (⟨_, V, rfl, Or.inl ⟨by unfold badS; (repeat' split) <;> first | rfl | (exfalso; omega), fun _ => rfl⟩, hW⟩)

abbrev B_q_X4_serverOf (dC : Nat → ClassId) (dI : Nat → Nat → Nat) (h0 : Nat) (R : Nat → Nat) (A : Nat → Prop) (V : Nat → Int32) (G : Nat → Nat → Int32) (ns : Nat) (a1 : Int32) (a2 : Int32) : Option Value → Heap → Prop := fun v H => ∃ r : Int32, v = some (.int r) ∧ Mw dC dI h0 R A V G H
set_option maxHeartbeats 8000000 in
set_option maxRecDepth 20000 in
theorem q_X4_serverOf (l : Launch) (dC : Nat → ClassId) (dI : Nat → Nat → Nat) (h0 : Nat) (R : Nat → Nat) (A : Nat → Prop) (V : Nat → Int32) (G : Nat → Nat → Int32) (ns : Nat) (a1 : Int32) (a2 : Int32) (hV2 : V 2 = nI ns) (hns : ns ≤ 8) : Met l yX4_serverOf (cws yX4_serverOf cX4_serverOf 3 (some .int)) { frames := 2, cells := 0, slots := 0, locals := 42 } (va_Pc [.ref h0, .int a1, .int a2] (fun U => Kt dC dI U ∧ Mw dC dI h0 R A V G U.heap)) (Qg (B_q_X4_serverOf dC dI h0 R A V G ns a1 a2) A) 0 0 A := by
  refine m_start (KK := Kt dC dI) (Pw := Mw dC dI h0 R A V G) (by decide) (Nat.le_of_ble_eq_true rfl) ?_
  intro p e s m below meth c ls S hr hlocks hin hK hW hS hl
  obtain ⟨hx, hb, hml, hown, hts⟩ := id S
  have hl : lv_has ls 3 [(0, .ref h0), (1, .int a1), (2, .int a2)] := hl
  have en_s : (nI ns).toInt = ((ns : Nat) : Int) := pz_ti (by omega)
  refine lv_aload_n hx hb dX4_serverOf_0 rfl (lv_at hl 0 rfl) ?_
  refine lv_iload_n hx hb dX4_serverOf_1 rfl (lv_at hl 1 rfl) ?_
  refine c_v (n := 1) (As := [.int a1]) (rest := []) S (q_X4_isServer l dC dI h0 R A V G ns a1 hV2 (by omega)) iw_795 iw_792 iw_794 iw_34 iw_61 (by decide +kernel) rfl ⟨rfl, rfl, Nat.le_of_ble_eq_true rfl, Nat.le_of_ble_eq_true rfl⟩ Kt.blind (M_recv hK hW) hK.at hW hl.1 rfl (by decide) dX4_serverOf_2 ⟨Nat.le_refl _, Nat.le_refl _⟩ hS (fun _ h9 => h9) (fun v9 H locs hB hz9 hk9 hS => ?_)
  refine W.widen (k := 0) (n := 0) (Nat.le_refl 0) (Nat.le_refl 0) ?_
  obtain ⟨r_1, rfl, hr_1, hW⟩ := hB
  refine W.eq (g2 := F0 m 5 ls [.int r_1]) rfl ?_
  rcases hr_1 with ⟨ha_1, hb_1, rfl⟩ | ⟨ha_1, rfl⟩
  · skip
    obtain ⟨j_1, hj_1, ej_1⟩ := pz_of ha_1 hb_1
    subst ej_1
    have en_2 : (nI j_1).toInt = ((j_1 : Nat) : Int) := pz_ti (by omega)
    refine lv_if_ne (tgt := 14) hx hb dX4_serverOf_5 (by decide) (fun c_3 => ?_) (fun c_3 => absurd c_3 (by decide))
    refine lv_iload_n hx hb dX4_serverOf_14 rfl (lv_at hl 2 rfl) ?_
    by_cases t_4 : a2.toInt < 0 ∨ 15 < a2.toInt
    · skip
      refine lv_tableOut (tgt := 222) hx hb dX4_serverOf_15 t_4 (by decide) ?_
      refine lv_aload_n hx hb dX4_serverOf_222 rfl (lv_at hl 0 rfl) ?_
      refine lv_bipush (v := (-2)) hx hb dX4_serverOf_223 (by decide) ?_
      refine c_v (n := 1) (As := [.int (-2)]) (rest := []) S (q_X4_refuse l dC dI h0 R A V G (-2) (by unfold vp_in; decide)) iw_787 iw_784 iw_786 iw_33 iw_61 (by decide +kernel) rfl ⟨rfl, rfl, Nat.le_of_ble_eq_true rfl, Nat.le_of_ble_eq_true rfl⟩ Kt.blind (M_recv hK hW) hK.at hW hl.1 rfl (by decide) dX4_serverOf_225 ⟨Nat.le_refl _, Nat.le_refl _⟩ hS (fun _ h9 => h9) (fun v9 H locs hB hz9 hk9 hS => ?_)
      refine W.widen (k := 0) (n := 0) (Nat.le_refl 0) (Nat.le_refl 0) ?_
      obtain ⟨_, rfl, rfl, hW⟩ := hB
      refine W.eq (g2 := F0 m 228 ls [.int (-2)]) rfl ?_
      exact r_i (v := (-2)) hx hb hr hlocks hS dX4_serverOf_228 (⟨_, rfl, hW⟩)
    · skip
      obtain ⟨j_4, hj_4, ej_4⟩ := pz_of (x := a2) (n := 16) (by omega) (by omega)
      have oj_4 : j_4 = 0 ∨ j_4 = 1 ∨ j_4 = 2 ∨ j_4 = 3 ∨ j_4 = 4 ∨ j_4 = 5 ∨ j_4 = 6 ∨ j_4 = 7 ∨ j_4 = 8 ∨ j_4 = 9 ∨ j_4 = 10 ∨ j_4 = 11 ∨ j_4 = 12 ∨ j_4 = 13 ∨ j_4 = 14 ∨ j_4 = 15 := by omega
      rcases oj_4 with h9 | h9 | h9 | h9 | h9 | h9 | h9 | h9 | h9 | h9 | h9 | h9 | h9 | h9 | h9 | h9
      · skip
        have e9 : a2 = 0 := by rw [ej_4, h9]; rfl
        subst e9
        refine lv_tableIn (off := 77) (tgt := 92) hx hb dX4_serverOf_15 (by decide) (by decide) (by decide) (by decide) ?_
        refine lv_aload_n hx hb dX4_serverOf_92 rfl (lv_at hl 0 rfl) ?_
        refine M_g17 S hK hW dX4_serverOf_93 ?_
        refine lv_iload_n hx hb dX4_serverOf_96 rfl (lv_at hl 1 rfl) ?_
        refine mw_ld S hK hW 17 rfl rfl (pz_vi (n := mN 17) (by rw [show mN 17 = 8 from rfl]; omega) (by decide)) dX4_serverOf_97 (fun x_6 hx_6 => ?_)
        replace hx_6 : x_6 = G 17 j_1 := (hx_6 rfl).trans (congrArg _ (pz_cl (by omega)))
        exact r_i (v := x_6) hx hb hr hlocks hS dX4_serverOf_98 (⟨_, rfl, hW⟩)
      · skip
        have e9 : a2 = 1 := by rw [ej_4, h9]; rfl
        subst e9
        refine lv_tableIn (off := 84) (tgt := 99) hx hb dX4_serverOf_15 (by decide) (by decide) (by decide) (by decide) ?_
        refine lv_aload_n hx hb dX4_serverOf_99 rfl (lv_at hl 0 rfl) ?_
        refine M_g18 S hK hW dX4_serverOf_100 ?_
        refine lv_iload_n hx hb dX4_serverOf_103 rfl (lv_at hl 1 rfl) ?_
        refine mw_ld S hK hW 18 rfl rfl (pz_vi (n := mN 18) (by rw [show mN 18 = 8 from rfl]; omega) (by decide)) dX4_serverOf_104 (fun x_7 hx_7 => ?_)
        exact r_i (v := x_7) hx hb hr hlocks hS dX4_serverOf_105 (⟨_, rfl, hW⟩)
      · skip
        have e9 : a2 = 2 := by rw [ej_4, h9]; rfl
        subst e9
        refine lv_tableIn (off := 91) (tgt := 106) hx hb dX4_serverOf_15 (by decide) (by decide) (by decide) (by decide) ?_
        refine lv_aload_n hx hb dX4_serverOf_106 rfl (lv_at hl 0 rfl) ?_
        refine M_g19 S hK hW dX4_serverOf_107 ?_
        refine lv_iload_n hx hb dX4_serverOf_110 rfl (lv_at hl 1 rfl) ?_
        refine mw_ld S hK hW 19 rfl rfl (pz_vi (n := mN 19) (by rw [show mN 19 = 8 from rfl]; omega) (by decide)) dX4_serverOf_111 (fun x_8 hx_8 => ?_)
        exact r_i (v := x_8) hx hb hr hlocks hS dX4_serverOf_112 (⟨_, rfl, hW⟩)
      · skip
        have e9 : a2 = 3 := by rw [ej_4, h9]; rfl
        subst e9
        refine lv_tableIn (off := 98) (tgt := 113) hx hb dX4_serverOf_15 (by decide) (by decide) (by decide) (by decide) ?_
        refine lv_aload_n hx hb dX4_serverOf_113 rfl (lv_at hl 0 rfl) ?_
        refine M_g20 S hK hW dX4_serverOf_114 ?_
        refine lv_iload_n hx hb dX4_serverOf_117 rfl (lv_at hl 1 rfl) ?_
        refine mw_ld S hK hW 20 rfl rfl (pz_vi (n := mN 20) (by rw [show mN 20 = 8 from rfl]; omega) (by decide)) dX4_serverOf_118 (fun x_9 hx_9 => ?_)
        exact r_i (v := x_9) hx hb hr hlocks hS dX4_serverOf_119 (⟨_, rfl, hW⟩)
      · skip
        have e9 : a2 = 4 := by rw [ej_4, h9]; rfl
        subst e9
        refine lv_tableIn (off := 105) (tgt := 120) hx hb dX4_serverOf_15 (by decide) (by decide) (by decide) (by decide) ?_
        refine lv_aload_n hx hb dX4_serverOf_120 rfl (lv_at hl 0 rfl) ?_
        refine M_g21 S hK hW dX4_serverOf_121 ?_
        refine lv_iload_n hx hb dX4_serverOf_124 rfl (lv_at hl 1 rfl) ?_
        refine mw_ld S hK hW 21 rfl rfl (pz_vi (n := mN 21) (by rw [show mN 21 = 8 from rfl]; omega) (by decide)) dX4_serverOf_125 (fun x_10 hx_10 => ?_)
        exact r_i (v := x_10) hx hb hr hlocks hS dX4_serverOf_126 (⟨_, rfl, hW⟩)
      · skip
        have e9 : a2 = 5 := by rw [ej_4, h9]; rfl
        subst e9
        refine lv_tableIn (off := 112) (tgt := 127) hx hb dX4_serverOf_15 (by decide) (by decide) (by decide) (by decide) ?_
        refine lv_aload_n hx hb dX4_serverOf_127 rfl (lv_at hl 0 rfl) ?_
        refine M_g22 S hK hW dX4_serverOf_128 ?_
        refine lv_iload_n hx hb dX4_serverOf_131 rfl (lv_at hl 1 rfl) ?_
        refine mw_ld S hK hW 22 rfl rfl (pz_vi (n := mN 22) (by rw [show mN 22 = 8 from rfl]; omega) (by decide)) dX4_serverOf_132 (fun x_11 hx_11 => ?_)
        exact r_i (v := x_11) hx hb hr hlocks hS dX4_serverOf_133 (⟨_, rfl, hW⟩)
      · skip
        have e9 : a2 = 6 := by rw [ej_4, h9]; rfl
        subst e9
        refine lv_tableIn (off := 119) (tgt := 134) hx hb dX4_serverOf_15 (by decide) (by decide) (by decide) (by decide) ?_
        refine lv_aload_n hx hb dX4_serverOf_134 rfl (lv_at hl 0 rfl) ?_
        refine M_g17 S hK hW dX4_serverOf_135 ?_
        refine lv_iload_n hx hb dX4_serverOf_138 rfl (lv_at hl 1 rfl) ?_
        refine mw_ld S hK hW 17 rfl rfl (pz_vi (n := mN 17) (by rw [show mN 17 = 8 from rfl]; omega) (by decide)) dX4_serverOf_139 (fun x_12 hx_12 => ?_)
        replace hx_12 : x_12 = G 17 j_1 := (hx_12 rfl).trans (congrArg _ (pz_cl (by omega)))
        refine lv_iconst (v := 1) hx hb dX4_serverOf_140 (by decide) ?_
        refine lv_icmp_ne (tgt := 153) hx hb dX4_serverOf_141 (by decide) (fun c_13 => ?_) (fun c_13 => ?_)
        · skip
          have i_13 : ¬ x_12.toInt = 1 := by have h9 := pz_neq c_13; exact h9
          refine lv_bipush (v := (-9)) hx hb dX4_serverOf_153 (by decide) ?_
          exact r_i (v := (-9)) hx hb hr hlocks hS dX4_serverOf_155 (⟨_, rfl, hW⟩)
        · skip
          have i_13 : x_12.toInt = 1 := by have h9 := pz_eq c_13; exact h9
          refine lv_aload_n hx hb dX4_serverOf_144 rfl (lv_at hl 0 rfl) ?_
          refine M_g23 S hK hW dX4_serverOf_145 ?_
          refine lv_iload_n hx hb dX4_serverOf_148 rfl (lv_at hl 1 rfl) ?_
          refine mw_ld S hK hW 23 rfl rfl (pz_vi (n := mN 23) (by rw [show mN 23 = 8 from rfl]; omega) (by decide)) dX4_serverOf_149 (fun x_14 hx_14 => ?_)
          refine lv_goto (tgt := 155) hx hb dX4_serverOf_150 (by decide) ?_
          exact r_i (v := x_14) hx hb hr hlocks hS dX4_serverOf_155 (⟨_, rfl, hW⟩)
      · skip
        have e9 : a2 = 7 := by rw [ej_4, h9]; rfl
        subst e9
        refine lv_tableIn (off := 141) (tgt := 156) hx hb dX4_serverOf_15 (by decide) (by decide) (by decide) (by decide) ?_
        refine lv_aload_n hx hb dX4_serverOf_156 rfl (lv_at hl 0 rfl) ?_
        refine M_g24 S hK hW dX4_serverOf_157 ?_
        refine lv_iload_n hx hb dX4_serverOf_160 rfl (lv_at hl 1 rfl) ?_
        refine mw_ld S hK hW 24 rfl rfl (pz_vi (n := mN 24) (by rw [show mN 24 = 8 from rfl]; omega) (by decide)) dX4_serverOf_161 (fun x_15 hx_15 => ?_)
        exact r_i (v := x_15) hx hb hr hlocks hS dX4_serverOf_162 (⟨_, rfl, hW⟩)
      · skip
        have e9 : a2 = 8 := by rw [ej_4, h9]; rfl
        subst e9
        refine lv_tableIn (off := 148) (tgt := 163) hx hb dX4_serverOf_15 (by decide) (by decide) (by decide) (by decide) ?_
        refine lv_aload_n hx hb dX4_serverOf_163 rfl (lv_at hl 0 rfl) ?_
        refine M_g25 S hK hW dX4_serverOf_164 ?_
        refine lv_iload_n hx hb dX4_serverOf_167 rfl (lv_at hl 1 rfl) ?_
        refine mw_ld S hK hW 25 rfl rfl (pz_vi (n := mN 25) (by rw [show mN 25 = 8 from rfl]; omega) (by decide)) dX4_serverOf_168 (fun x_16 hx_16 => ?_)
        exact r_i (v := x_16) hx hb hr hlocks hS dX4_serverOf_169 (⟨_, rfl, hW⟩)
      · skip
        have e9 : a2 = 9 := by rw [ej_4, h9]; rfl
        subst e9
        refine lv_tableIn (off := 155) (tgt := 170) hx hb dX4_serverOf_15 (by decide) (by decide) (by decide) (by decide) ?_
        refine lv_aload_n hx hb dX4_serverOf_170 rfl (lv_at hl 0 rfl) ?_
        refine M_g26 S hK hW dX4_serverOf_171 ?_
        refine lv_iload_n hx hb dX4_serverOf_174 rfl (lv_at hl 1 rfl) ?_
        refine mw_ld S hK hW 26 rfl rfl (pz_vi (n := mN 26) (by rw [show mN 26 = 8 from rfl]; omega) (by decide)) dX4_serverOf_175 (fun x_17 hx_17 => ?_)
        refine lv_ldc hx hb hown (hts _ iw_800) dX4_serverOf_176 ?_
        refine lv_iadd hx hb dX4_serverOf_178 ?_
        refine lv_topi (fun x_18 _ => ?_)
        exact r_i (v := x_18) hx hb hr hlocks hS dX4_serverOf_179 (⟨_, rfl, hW⟩)
      · skip
        have e9 : a2 = 10 := by rw [ej_4, h9]; rfl
        subst e9
        refine lv_tableIn (off := 165) (tgt := 180) hx hb dX4_serverOf_15 (by decide) (by decide) (by decide) (by decide) ?_
        refine lv_aload_n hx hb dX4_serverOf_180 rfl (lv_at hl 0 rfl) ?_
        refine M_g11 S hK hW dX4_serverOf_181 ?_
        refine lv_iload_n hx hb dX4_serverOf_184 rfl (lv_at hl 1 rfl) ?_
        refine mw_ld S hK hW 11 rfl rfl (pz_vi (n := mN 11) (by rw [show mN 11 = 8 from rfl]; omega) (by decide)) dX4_serverOf_185 (fun x_19 hx_19 => ?_)
        exact r_i (v := x_19) hx hb hr hlocks hS dX4_serverOf_186 (⟨_, rfl, hW⟩)
      · skip
        have e9 : a2 = 11 := by rw [ej_4, h9]; rfl
        subst e9
        refine lv_tableIn (off := 172) (tgt := 187) hx hb dX4_serverOf_15 (by decide) (by decide) (by decide) (by decide) ?_
        refine lv_aload_n hx hb dX4_serverOf_187 rfl (lv_at hl 0 rfl) ?_
        refine M_g12 S hK hW dX4_serverOf_188 ?_
        refine lv_iload_n hx hb dX4_serverOf_191 rfl (lv_at hl 1 rfl) ?_
        refine mw_ld S hK hW 12 rfl rfl (pz_vi (n := mN 12) (by rw [show mN 12 = 8 from rfl]; omega) (by decide)) dX4_serverOf_192 (fun x_20 hx_20 => ?_)
        exact r_i (v := x_20) hx hb hr hlocks hS dX4_serverOf_193 (⟨_, rfl, hW⟩)
      · skip
        have e9 : a2 = 12 := by rw [ej_4, h9]; rfl
        subst e9
        refine lv_tableIn (off := 179) (tgt := 194) hx hb dX4_serverOf_15 (by decide) (by decide) (by decide) (by decide) ?_
        refine lv_aload_n hx hb dX4_serverOf_194 rfl (lv_at hl 0 rfl) ?_
        refine M_g13 S hK hW dX4_serverOf_195 ?_
        refine lv_iload_n hx hb dX4_serverOf_198 rfl (lv_at hl 1 rfl) ?_
        refine mw_ld S hK hW 13 rfl rfl (pz_vi (n := mN 13) (by rw [show mN 13 = 8 from rfl]; omega) (by decide)) dX4_serverOf_199 (fun x_21 hx_21 => ?_)
        exact r_i (v := x_21) hx hb hr hlocks hS dX4_serverOf_200 (⟨_, rfl, hW⟩)
      · skip
        have e9 : a2 = 13 := by rw [ej_4, h9]; rfl
        subst e9
        refine lv_tableIn (off := 186) (tgt := 201) hx hb dX4_serverOf_15 (by decide) (by decide) (by decide) (by decide) ?_
        refine lv_aload_n hx hb dX4_serverOf_201 rfl (lv_at hl 0 rfl) ?_
        refine M_g14 S hK hW dX4_serverOf_202 ?_
        refine lv_iload_n hx hb dX4_serverOf_205 rfl (lv_at hl 1 rfl) ?_
        refine mw_ld S hK hW 14 rfl rfl (pz_vi (n := mN 14) (by rw [show mN 14 = 8 from rfl]; omega) (by decide)) dX4_serverOf_206 (fun x_22 hx_22 => ?_)
        exact r_i (v := x_22) hx hb hr hlocks hS dX4_serverOf_207 (⟨_, rfl, hW⟩)
      · skip
        have e9 : a2 = 14 := by rw [ej_4, h9]; rfl
        subst e9
        refine lv_tableIn (off := 193) (tgt := 208) hx hb dX4_serverOf_15 (by decide) (by decide) (by decide) (by decide) ?_
        refine lv_aload_n hx hb dX4_serverOf_208 rfl (lv_at hl 0 rfl) ?_
        refine M_g15 S hK hW dX4_serverOf_209 ?_
        refine lv_iload_n hx hb dX4_serverOf_212 rfl (lv_at hl 1 rfl) ?_
        refine mw_ld S hK hW 15 rfl rfl (pz_vi (n := mN 15) (by rw [show mN 15 = 8 from rfl]; omega) (by decide)) dX4_serverOf_213 (fun x_23 hx_23 => ?_)
        exact r_i (v := x_23) hx hb hr hlocks hS dX4_serverOf_214 (⟨_, rfl, hW⟩)
      · skip
        have e9 : a2 = 15 := by rw [ej_4, h9]; rfl
        subst e9
        refine lv_tableIn (off := 200) (tgt := 215) hx hb dX4_serverOf_15 (by decide) (by decide) (by decide) (by decide) ?_
        refine lv_aload_n hx hb dX4_serverOf_215 rfl (lv_at hl 0 rfl) ?_
        refine M_g16 S hK hW dX4_serverOf_216 ?_
        refine lv_iload_n hx hb dX4_serverOf_219 rfl (lv_at hl 1 rfl) ?_
        refine mw_ld S hK hW 16 rfl rfl (pz_vi (n := mN 16) (by rw [show mN 16 = 8 from rfl]; omega) (by decide)) dX4_serverOf_220 (fun x_24 hx_24 => ?_)
        exact r_i (v := x_24) hx hb hr hlocks hS dX4_serverOf_221 (⟨_, rfl, hW⟩)
  · skip
    refine lv_if_ne (tgt := 14) hx hb dX4_serverOf_5 (by decide) (fun c_25 => absurd c_25 (by decide)) (fun c_25 => ?_)
    refine lv_aload_n hx hb dX4_serverOf_8 rfl (lv_at hl 0 rfl) ?_
    refine lv_iconst (v := (-1)) hx hb dX4_serverOf_9 (by decide) ?_
    refine c_v (n := 1) (As := [.int (-1)]) (rest := []) S (q_X4_refuse l dC dI h0 R A V G (-1) (by unfold vp_in; decide)) iw_787 iw_784 iw_786 iw_33 iw_61 (by decide +kernel) rfl ⟨rfl, rfl, Nat.le_of_ble_eq_true rfl, Nat.le_of_ble_eq_true rfl⟩ Kt.blind (M_recv hK hW) hK.at hW hl.1 rfl (by decide) dX4_serverOf_10 ⟨Nat.le_refl _, Nat.le_refl _⟩ hS (fun _ h9 => h9) (fun v9 H locs hB hz9 hk9 hS => ?_)
    refine W.widen (k := 0) (n := 0) (Nat.le_refl 0) (Nat.le_refl 0) ?_
    obtain ⟨_, rfl, rfl, hW⟩ := hB
    refine W.eq (g2 := F0 m 13 ls [.int (-1)]) rfl ?_
    exact r_i (v := (-1)) hx hb hr hlocks hS dX4_serverOf_13 (⟨_, rfl, hW⟩)

abbrev B_q_X4_callOf (dC : Nat → ClassId) (dI : Nat → Nat → Nat) (h0 : Nat) (R : Nat → Nat) (A : Nat → Prop) (V : Nat → Int32) (G : Nat → Nat → Int32) (nc : Nat) (a1 : Int32) (a2 : Int32) : Option Value → Heap → Prop := fun v H => ∃ r : Int32, v = some (.int r) ∧ Mw dC dI h0 R A V G H
set_option maxHeartbeats 8000000 in
set_option maxRecDepth 20000 in
theorem q_X4_callOf (l : Launch) (dC : Nat → ClassId) (dI : Nat → Nat → Nat) (h0 : Nat) (R : Nat → Nat) (A : Nat → Prop) (V : Nat → Int32) (G : Nat → Nat → Int32) (nc : Nat) (a1 : Int32) (a2 : Int32) (hV3 : V 3 = nI nc) (hnc : nc ≤ 200) : Met l yX4_callOf (cws yX4_callOf cX4_callOf 3 (some .int)) { frames := 2, cells := 0, slots := 0, locals := 42 } (va_Pc [.ref h0, .int a1, .int a2] (fun U => Kt dC dI U ∧ Mw dC dI h0 R A V G U.heap)) (Qg (B_q_X4_callOf dC dI h0 R A V G nc a1 a2) A) 0 0 A := by
  refine m_start (KK := Kt dC dI) (Pw := Mw dC dI h0 R A V G) (by decide) (Nat.le_of_ble_eq_true rfl) ?_
  intro p e s m below meth c ls S hr hlocks hin hK hW hS hl
  obtain ⟨hx, hb, hml, hown, hts⟩ := id S
  have hl : lv_has ls 3 [(0, .ref h0), (1, .int a1), (2, .int a2)] := hl
  have en_c : (nI nc).toInt = ((nc : Nat) : Int) := pz_ti (by omega)
  refine lv_aload_n hx hb dX4_callOf_0 rfl (lv_at hl 0 rfl) ?_
  refine lv_iload_n hx hb dX4_callOf_1 rfl (lv_at hl 1 rfl) ?_
  refine c_v (n := 1) (As := [.int a1]) (rest := []) S (q_X4_isCall l dC dI h0 R A V G nc a1 hV3 (by omega)) iw_874 iw_871 iw_873 iw_43 iw_61 (by decide +kernel) rfl ⟨rfl, rfl, Nat.le_of_ble_eq_true rfl, Nat.le_of_ble_eq_true rfl⟩ Kt.blind (M_recv hK hW) hK.at hW hl.1 rfl (by decide) dX4_callOf_2 ⟨Nat.le_refl _, Nat.le_refl _⟩ hS (fun _ h9 => h9) (fun v9 H locs hB hz9 hk9 hS => ?_)
  refine W.widen (k := 0) (n := 0) (Nat.le_refl 0) (Nat.le_refl 0) ?_
  obtain ⟨r_1, rfl, hr_1, hW⟩ := hB
  refine W.eq (g2 := F0 m 5 ls [.int r_1]) rfl ?_
  rcases hr_1 with ⟨ha_1, hb_1, rfl⟩ | ⟨ha_1, rfl⟩
  · skip
    obtain ⟨j_1, hj_1, ej_1⟩ := pz_of ha_1 hb_1
    subst ej_1
    have en_2 : (nI j_1).toInt = ((j_1 : Nat) : Int) := pz_ti (by omega)
    refine lv_if_ne (tgt := 14) hx hb dX4_callOf_5 (by decide) (fun c_3 => ?_) (fun c_3 => absurd c_3 (by decide))
    refine lv_iload_n hx hb dX4_callOf_14 rfl (lv_at hl 2 rfl) ?_
    by_cases t_4 : a2.toInt < 0 ∨ 10 < a2.toInt
    · skip
      refine lv_tableOut (tgt := 211) hx hb dX4_callOf_15 t_4 (by decide) ?_
      refine lv_aload_n hx hb dX4_callOf_211 rfl (lv_at hl 0 rfl) ?_
      refine lv_bipush (v := (-2)) hx hb dX4_callOf_212 (by decide) ?_
      refine c_v (n := 1) (As := [.int (-2)]) (rest := []) S (q_X4_refuse l dC dI h0 R A V G (-2) (by unfold vp_in; decide)) iw_787 iw_784 iw_786 iw_33 iw_61 (by decide +kernel) rfl ⟨rfl, rfl, Nat.le_of_ble_eq_true rfl, Nat.le_of_ble_eq_true rfl⟩ Kt.blind (M_recv hK hW) hK.at hW hl.1 rfl (by decide) dX4_callOf_214 ⟨Nat.le_refl _, Nat.le_refl _⟩ hS (fun _ h9 => h9) (fun v9 H locs hB hz9 hk9 hS => ?_)
      refine W.widen (k := 0) (n := 0) (Nat.le_refl 0) (Nat.le_refl 0) ?_
      obtain ⟨_, rfl, rfl, hW⟩ := hB
      refine W.eq (g2 := F0 m 217 ls [.int (-2)]) rfl ?_
      exact r_i (v := (-2)) hx hb hr hlocks hS dX4_callOf_217 (⟨_, rfl, hW⟩)
    · skip
      obtain ⟨j_4, hj_4, ej_4⟩ := pz_of (x := a2) (n := 11) (by omega) (by omega)
      have oj_4 : j_4 = 0 ∨ j_4 = 1 ∨ j_4 = 2 ∨ j_4 = 3 ∨ j_4 = 4 ∨ j_4 = 5 ∨ j_4 = 6 ∨ j_4 = 7 ∨ j_4 = 8 ∨ j_4 = 9 ∨ j_4 = 10 := by omega
      rcases oj_4 with h9 | h9 | h9 | h9 | h9 | h9 | h9 | h9 | h9 | h9 | h9
      · skip
        have e9 : a2 = 0 := by rw [ej_4, h9]; rfl
        subst e9
        refine lv_tableIn (off := 57) (tgt := 72) hx hb dX4_callOf_15 (by decide) (by decide) (by decide) (by decide) ?_
        refine lv_aload_n hx hb dX4_callOf_72 rfl (lv_at hl 0 rfl) ?_
        refine M_g30 S hK hW dX4_callOf_73 ?_
        refine lv_iload_n hx hb dX4_callOf_76 rfl (lv_at hl 1 rfl) ?_
        refine mw_ld S hK hW 30 rfl rfl (pz_vi (n := mN 30) (by rw [show mN 30 = 200 from rfl]; omega) (by decide)) dX4_callOf_77 (fun x_6 hx_6 => ?_)
        replace hx_6 : x_6 = G 30 j_1 := (hx_6 rfl).trans (congrArg _ (pz_cl (by omega)))
        exact r_i (v := x_6) hx hb hr hlocks hS dX4_callOf_78 (⟨_, rfl, hW⟩)
      · skip
        have e9 : a2 = 1 := by rw [ej_4, h9]; rfl
        subst e9
        refine lv_tableIn (off := 64) (tgt := 79) hx hb dX4_callOf_15 (by decide) (by decide) (by decide) (by decide) ?_
        refine lv_aload_n hx hb dX4_callOf_79 rfl (lv_at hl 0 rfl) ?_
        refine M_g27 S hK hW dX4_callOf_80 ?_
        refine lv_iload_n hx hb dX4_callOf_83 rfl (lv_at hl 1 rfl) ?_
        refine mw_ld S hK hW 27 rfl rfl (pz_vi (n := mN 27) (by rw [show mN 27 = 200 from rfl]; omega) (by decide)) dX4_callOf_84 (fun x_7 hx_7 => ?_)
        exact r_i (v := x_7) hx hb hr hlocks hS dX4_callOf_85 (⟨_, rfl, hW⟩)
      · skip
        have e9 : a2 = 2 := by rw [ej_4, h9]; rfl
        subst e9
        refine lv_tableIn (off := 71) (tgt := 86) hx hb dX4_callOf_15 (by decide) (by decide) (by decide) (by decide) ?_
        refine lv_aload_n hx hb dX4_callOf_86 rfl (lv_at hl 0 rfl) ?_
        refine M_g28 S hK hW dX4_callOf_87 ?_
        refine lv_iload_n hx hb dX4_callOf_90 rfl (lv_at hl 1 rfl) ?_
        refine mw_ld S hK hW 28 rfl rfl (pz_vi (n := mN 28) (by rw [show mN 28 = 200 from rfl]; omega) (by decide)) dX4_callOf_91 (fun x_8 hx_8 => ?_)
        exact r_i (v := x_8) hx hb hr hlocks hS dX4_callOf_92 (⟨_, rfl, hW⟩)
      · skip
        have e9 : a2 = 3 := by rw [ej_4, h9]; rfl
        subst e9
        refine lv_tableIn (off := 78) (tgt := 93) hx hb dX4_callOf_15 (by decide) (by decide) (by decide) (by decide) ?_
        refine lv_aload_n hx hb dX4_callOf_93 rfl (lv_at hl 0 rfl) ?_
        refine M_g29 S hK hW dX4_callOf_94 ?_
        refine lv_iload_n hx hb dX4_callOf_97 rfl (lv_at hl 1 rfl) ?_
        refine mw_ld S hK hW 29 rfl rfl (pz_vi (n := mN 29) (by rw [show mN 29 = 200 from rfl]; omega) (by decide)) dX4_callOf_98 (fun x_9 hx_9 => ?_)
        exact r_i (v := x_9) hx hb hr hlocks hS dX4_callOf_99 (⟨_, rfl, hW⟩)
      · skip
        have e9 : a2 = 4 := by rw [ej_4, h9]; rfl
        subst e9
        refine lv_tableIn (off := 85) (tgt := 100) hx hb dX4_callOf_15 (by decide) (by decide) (by decide) (by decide) ?_
        refine lv_aload_n hx hb dX4_callOf_100 rfl (lv_at hl 0 rfl) ?_
        refine M_g36 S hK hW dX4_callOf_101 ?_
        refine lv_iload_n hx hb dX4_callOf_104 rfl (lv_at hl 1 rfl) ?_
        refine mw_lz S hK hW 36 rfl rfl (pz_vi (n := mN 36) (by rw [show mN 36 = 200 from rfl]; omega) (by decide)) dX4_callOf_105 (fun x_10 => ?_)
        refine lv_if_eq (tgt := 113) hx hb dX4_callOf_106 (by decide) (fun c_11 => ?_) (fun c_11 => ?_)
        · skip
          have i_11 : x_10.toInt = 0 := by have h9 := pz_eq c_11; exact h9
          refine lv_iconst (v := 0) hx hb dX4_callOf_113 (by decide) ?_
          exact r_i (v := 0) hx hb hr hlocks hS dX4_callOf_114 (⟨_, rfl, hW⟩)
        · skip
          have i_11 : ¬ x_10.toInt = 0 := by have h9 := pz_neq c_11; exact h9
          refine lv_iconst (v := 1) hx hb dX4_callOf_109 (by decide) ?_
          refine lv_goto (tgt := 114) hx hb dX4_callOf_110 (by decide) ?_
          exact r_i (v := 1) hx hb hr hlocks hS dX4_callOf_114 (⟨_, rfl, hW⟩)
      · skip
        have e9 : a2 = 5 := by rw [ej_4, h9]; rfl
        subst e9
        refine lv_tableIn (off := 100) (tgt := 115) hx hb dX4_callOf_15 (by decide) (by decide) (by decide) (by decide) ?_
        refine lv_aload_n hx hb dX4_callOf_115 rfl (lv_at hl 0 rfl) ?_
        refine M_g31 S hK hW dX4_callOf_116 ?_
        refine lv_iload_n hx hb dX4_callOf_119 rfl (lv_at hl 1 rfl) ?_
        refine mw_ld S hK hW 31 rfl rfl (pz_vi (n := mN 31) (by rw [show mN 31 = 200 from rfl]; omega) (by decide)) dX4_callOf_120 (fun x_12 hx_12 => ?_)
        replace hx_12 : x_12 = G 31 j_1 := (hx_12 rfl).trans (congrArg _ (pz_cl (by omega)))
        exact r_i (v := x_12) hx hb hr hlocks hS dX4_callOf_121 (⟨_, rfl, hW⟩)
      · skip
        have e9 : a2 = 6 := by rw [ej_4, h9]; rfl
        subst e9
        refine lv_tableIn (off := 107) (tgt := 122) hx hb dX4_callOf_15 (by decide) (by decide) (by decide) (by decide) ?_
        refine lv_aload_n hx hb dX4_callOf_122 rfl (lv_at hl 0 rfl) ?_
        refine M_g30 S hK hW dX4_callOf_123 ?_
        refine lv_iload_n hx hb dX4_callOf_126 rfl (lv_at hl 1 rfl) ?_
        refine mw_ld S hK hW 30 rfl rfl (pz_vi (n := mN 30) (by rw [show mN 30 = 200 from rfl]; omega) (by decide)) dX4_callOf_127 (fun x_13 hx_13 => ?_)
        replace hx_13 : x_13 = G 30 j_1 := (hx_13 rfl).trans (congrArg _ (pz_cl (by omega)))
        refine lv_iconst (v := 2) hx hb dX4_callOf_128 (by decide) ?_
        refine lv_icmp_ne (tgt := 141) hx hb dX4_callOf_129 (by decide) (fun c_14 => ?_) (fun c_14 => ?_)
        · skip
          have i_14 : ¬ x_13.toInt = 2 := by have h9 := pz_neq c_14; exact h9
          refine lv_aload_n hx hb dX4_callOf_141 rfl (lv_at hl 0 rfl) ?_
          refine M_g31 S hK hW dX4_callOf_142 ?_
          refine lv_iload_n hx hb dX4_callOf_145 rfl (lv_at hl 1 rfl) ?_
          refine mw_ld S hK hW 31 rfl rfl (pz_vi (n := mN 31) (by rw [show mN 31 = 200 from rfl]; omega) (by decide)) dX4_callOf_146 (fun x_15 hx_15 => ?_)
          replace hx_15 : x_15 = G 31 j_1 := (hx_15 rfl).trans (congrArg _ (pz_cl (by omega)))
          refine lv_if_le (tgt := 161) hx hb dX4_callOf_147 (by decide) (fun c_16 => ?_) (fun c_16 => ?_)
          · skip
            have i_16 : x_15.toInt ≤ 0 := by have h9 := pz_le c_16; exact h9
            refine lv_bipush (v := (-9)) hx hb dX4_callOf_161 (by decide) ?_
            exact r_i (v := (-9)) hx hb hr hlocks hS dX4_callOf_163 (⟨_, rfl, hW⟩)
          · skip
            have i_16 : x_15.toInt > 0 := by have h9 := pz_nle c_16; exact h9
            refine lv_aload_n hx hb dX4_callOf_150 rfl (lv_at hl 0 rfl) ?_
            refine M_g37 S hK hW dX4_callOf_151 ?_
            refine lv_iconst (v := 2) hx hb dX4_callOf_154 (by decide) ?_
            refine lv_iload_n hx hb dX4_callOf_155 rfl (lv_at hl 1 rfl) ?_
            refine lv_imul hx hb dX4_callOf_156 ?_
            refine lv_topi (fun x_17 ex_17 => ?_)
            obtain rfl : x_17 = nI (2 * j_1) := ex_17.trans (pk_mul 2 j_1)
            have en_18 : (nI (2 * j_1)).toInt = ((2 * j_1 : Nat) : Int) := pz_ti (by omega)
            refine mw_ld S hK hW 37 rfl rfl (pz_vi (n := mN 37) (by rw [show mN 37 = 400 from rfl]; omega) (by decide)) dX4_callOf_157 (fun x_19 hx_19 => ?_)
            replace hx_19 : x_19 = G 37 (2 * j_1) := (hx_19 rfl).trans (congrArg _ (pz_cl (by omega)))
            refine lv_goto (tgt := 163) hx hb dX4_callOf_158 (by decide) ?_
            exact r_i (v := x_19) hx hb hr hlocks hS dX4_callOf_163 (⟨_, rfl, hW⟩)
        · skip
          have i_14 : x_13.toInt = 2 := by have h9 := pz_eq c_14; exact h9
          refine lv_aload_n hx hb dX4_callOf_132 rfl (lv_at hl 0 rfl) ?_
          refine M_g35 S hK hW dX4_callOf_133 ?_
          refine lv_iload_n hx hb dX4_callOf_136 rfl (lv_at hl 1 rfl) ?_
          refine mw_ld S hK hW 35 rfl rfl (pz_vi (n := mN 35) (by rw [show mN 35 = 200 from rfl]; omega) (by decide)) dX4_callOf_137 (fun x_20 hx_20 => ?_)
          refine lv_goto (tgt := 163) hx hb dX4_callOf_138 (by decide) ?_
          exact r_i (v := x_20) hx hb hr hlocks hS dX4_callOf_163 (⟨_, rfl, hW⟩)
      · skip
        have e9 : a2 = 7 := by rw [ej_4, h9]; rfl
        subst e9
        refine lv_tableIn (off := 149) (tgt := 164) hx hb dX4_callOf_15 (by decide) (by decide) (by decide) (by decide) ?_
        refine lv_aload_n hx hb dX4_callOf_164 rfl (lv_at hl 0 rfl) ?_
        refine M_g31 S hK hW dX4_callOf_165 ?_
        refine lv_iload_n hx hb dX4_callOf_168 rfl (lv_at hl 1 rfl) ?_
        refine mw_ld S hK hW 31 rfl rfl (pz_vi (n := mN 31) (by rw [show mN 31 = 200 from rfl]; omega) (by decide)) dX4_callOf_169 (fun x_21 hx_21 => ?_)
        replace hx_21 : x_21 = G 31 j_1 := (hx_21 rfl).trans (congrArg _ (pz_cl (by omega)))
        refine lv_iconst (v := 1) hx hb dX4_callOf_170 (by decide) ?_
        refine lv_icmp_le (tgt := 187) hx hb dX4_callOf_171 (by decide) (fun c_22 => ?_) (fun c_22 => ?_)
        · skip
          have i_22 : x_21.toInt ≤ 1 := by have h9 := pz_le c_22; exact h9
          refine lv_bipush (v := (-9)) hx hb dX4_callOf_187 (by decide) ?_
          exact r_i (v := (-9)) hx hb hr hlocks hS dX4_callOf_189 (⟨_, rfl, hW⟩)
        · skip
          have i_22 : x_21.toInt > 1 := by have h9 := pz_nle c_22; exact h9
          refine lv_aload_n hx hb dX4_callOf_174 rfl (lv_at hl 0 rfl) ?_
          refine M_g37 S hK hW dX4_callOf_175 ?_
          refine lv_iconst (v := 2) hx hb dX4_callOf_178 (by decide) ?_
          refine lv_iload_n hx hb dX4_callOf_179 rfl (lv_at hl 1 rfl) ?_
          refine lv_imul hx hb dX4_callOf_180 ?_
          refine lv_topi (fun x_23 ex_23 => ?_)
          obtain rfl : x_23 = nI (2 * j_1) := ex_23.trans (pk_mul 2 j_1)
          have en_24 : (nI (2 * j_1)).toInt = ((2 * j_1 : Nat) : Int) := pz_ti (by omega)
          refine lv_iconst (v := 1) hx hb dX4_callOf_181 (by decide) ?_
          refine lv_iadd hx hb dX4_callOf_182 ?_
          refine lv_topi (fun x_25 ex_25 => ?_)
          obtain rfl : x_25 = nI ((2 * j_1) + 1) := ex_25.trans (nI_add (2 * j_1) 1)
          have en_26 : (nI ((2 * j_1) + 1)).toInt = (((2 * j_1) + 1 : Nat) : Int) := pz_ti (by omega)
          refine mw_ld S hK hW 37 rfl rfl (pz_vi (n := mN 37) (by rw [show mN 37 = 400 from rfl]; omega) (by decide)) dX4_callOf_183 (fun x_27 hx_27 => ?_)
          replace hx_27 : x_27 = G 37 ((2 * j_1) + 1) := (hx_27 rfl).trans (congrArg _ (pz_cl (by omega)))
          refine lv_goto (tgt := 189) hx hb dX4_callOf_184 (by decide) ?_
          exact r_i (v := x_27) hx hb hr hlocks hS dX4_callOf_189 (⟨_, rfl, hW⟩)
      · skip
        have e9 : a2 = 8 := by rw [ej_4, h9]; rfl
        subst e9
        refine lv_tableIn (off := 175) (tgt := 190) hx hb dX4_callOf_15 (by decide) (by decide) (by decide) (by decide) ?_
        refine lv_aload_n hx hb dX4_callOf_190 rfl (lv_at hl 0 rfl) ?_
        refine M_g32 S hK hW dX4_callOf_191 ?_
        refine lv_iload_n hx hb dX4_callOf_194 rfl (lv_at hl 1 rfl) ?_
        refine mw_ld S hK hW 32 rfl rfl (pz_vi (n := mN 32) (by rw [show mN 32 = 200 from rfl]; omega) (by decide)) dX4_callOf_195 (fun x_28 hx_28 => ?_)
        exact r_i (v := x_28) hx hb hr hlocks hS dX4_callOf_196 (⟨_, rfl, hW⟩)
      · skip
        have e9 : a2 = 9 := by rw [ej_4, h9]; rfl
        subst e9
        refine lv_tableIn (off := 182) (tgt := 197) hx hb dX4_callOf_15 (by decide) (by decide) (by decide) (by decide) ?_
        refine lv_aload_n hx hb dX4_callOf_197 rfl (lv_at hl 0 rfl) ?_
        refine M_g33 S hK hW dX4_callOf_198 ?_
        refine lv_iload_n hx hb dX4_callOf_201 rfl (lv_at hl 1 rfl) ?_
        refine mw_ld S hK hW 33 rfl rfl (pz_vi (n := mN 33) (by rw [show mN 33 = 200 from rfl]; omega) (by decide)) dX4_callOf_202 (fun x_29 hx_29 => ?_)
        exact r_i (v := x_29) hx hb hr hlocks hS dX4_callOf_203 (⟨_, rfl, hW⟩)
      · skip
        have e9 : a2 = 10 := by rw [ej_4, h9]; rfl
        subst e9
        refine lv_tableIn (off := 189) (tgt := 204) hx hb dX4_callOf_15 (by decide) (by decide) (by decide) (by decide) ?_
        refine lv_aload_n hx hb dX4_callOf_204 rfl (lv_at hl 0 rfl) ?_
        refine M_g34 S hK hW dX4_callOf_205 ?_
        refine lv_iload_n hx hb dX4_callOf_208 rfl (lv_at hl 1 rfl) ?_
        refine mw_ld S hK hW 34 rfl rfl (pz_vi (n := mN 34) (by rw [show mN 34 = 200 from rfl]; omega) (by decide)) dX4_callOf_209 (fun x_30 hx_30 => ?_)
        exact r_i (v := x_30) hx hb hr hlocks hS dX4_callOf_210 (⟨_, rfl, hW⟩)
  · skip
    refine lv_if_ne (tgt := 14) hx hb dX4_callOf_5 (by decide) (fun c_31 => absurd c_31 (by decide)) (fun c_31 => ?_)
    refine lv_aload_n hx hb dX4_callOf_8 rfl (lv_at hl 0 rfl) ?_
    refine lv_iconst (v := (-1)) hx hb dX4_callOf_9 (by decide) ?_
    refine c_v (n := 1) (As := [.int (-1)]) (rest := []) S (q_X4_refuse l dC dI h0 R A V G (-1) (by unfold vp_in; decide)) iw_787 iw_784 iw_786 iw_33 iw_61 (by decide +kernel) rfl ⟨rfl, rfl, Nat.le_of_ble_eq_true rfl, Nat.le_of_ble_eq_true rfl⟩ Kt.blind (M_recv hK hW) hK.at hW hl.1 rfl (by decide) dX4_callOf_10 ⟨Nat.le_refl _, Nat.le_refl _⟩ hS (fun _ h9 => h9) (fun v9 H locs hB hz9 hk9 hS => ?_)
    refine W.widen (k := 0) (n := 0) (Nat.le_refl 0) (Nat.le_refl 0) ?_
    obtain ⟨_, rfl, rfl, hW⟩ := hB
    refine W.eq (g2 := F0 m 13 ls [.int (-1)]) rfl ?_
    exact r_i (v := (-1)) hx hb hr hlocks hS dX4_callOf_13 (⟨_, rfl, hW⟩)

abbrev B_q_X4_share (dC : Nat → ClassId) (dI : Nat → Nat → Nat) (h0 : Nat) (R : Nat → Nat) (A : Nat → Prop) (V : Nat → Int32) (G : Nat → Nat → Int32) (ns : Nat) (a1 : Int32) : Option Value → Heap → Prop := fun v H => ∃ r : Int32, v = some (.int r) ∧ Mw dC dI h0 R A V G H
set_option maxHeartbeats 8000000 in
set_option maxRecDepth 20000 in
theorem q_X4_share (l : Launch) (dC : Nat → ClassId) (dI : Nat → Nat → Nat) (h0 : Nat) (R : Nat → Nat) (A : Nat → Prop) (V : Nat → Int32) (G : Nat → Nat → Int32) (ns : Nat) (a1 : Int32) (hV2 : V 2 = nI ns) (hns : ns ≤ 8) : Met l yX4_share (cws yX4_share cX4_share 2 (some .int)) { frames := 2, cells := 0, slots := 0, locals := 42 } (va_Pc [.ref h0, .int a1] (fun U => Kt dC dI U ∧ Mw dC dI h0 R A V G U.heap)) (Qg (B_q_X4_share dC dI h0 R A V G ns a1) A) 0 0 A := by
  refine m_start (KK := Kt dC dI) (Pw := Mw dC dI h0 R A V G) (by decide) (Nat.le_of_ble_eq_true rfl) ?_
  intro p e s m below meth c ls S hr hlocks hin hK hW hS hl
  obtain ⟨hx, hb, hml, hown, hts⟩ := id S
  have hl : lv_has ls 2 [(0, .ref h0), (1, .int a1)] := hl
  have en_s : (nI ns).toInt = ((ns : Nat) : Int) := pz_ti (by omega)
  refine lv_aload_n hx hb dX4_share_0 rfl (lv_at hl 0 rfl) ?_
  refine lv_iload_n hx hb dX4_share_1 rfl (lv_at hl 1 rfl) ?_
  refine c_v (n := 1) (As := [.int a1]) (rest := []) S (q_X4_isServer l dC dI h0 R A V G ns a1 hV2 (by omega)) iw_795 iw_792 iw_794 iw_34 iw_61 (by decide +kernel) rfl ⟨rfl, rfl, Nat.le_of_ble_eq_true rfl, Nat.le_of_ble_eq_true rfl⟩ Kt.blind (M_recv hK hW) hK.at hW hl.1 rfl (by decide) dX4_share_2 ⟨Nat.le_refl _, Nat.le_refl _⟩ hS (fun _ h9 => h9) (fun v9 H locs hB hz9 hk9 hS => ?_)
  refine W.widen (k := 0) (n := 0) (Nat.le_refl 0) (Nat.le_refl 0) ?_
  obtain ⟨r_1, rfl, hr_1, hW⟩ := hB
  refine W.eq (g2 := F0 m 5 ls [.int r_1]) rfl ?_
  rcases hr_1 with ⟨ha_1, hb_1, rfl⟩ | ⟨ha_1, rfl⟩
  · skip
    obtain ⟨j_1, hj_1, ej_1⟩ := pz_of ha_1 hb_1
    subst ej_1
    have en_2 : (nI j_1).toInt = ((j_1 : Nat) : Int) := pz_ti (by omega)
    refine lv_if_ne (tgt := 14) hx hb dX4_share_5 (by decide) (fun c_3 => ?_) (fun c_3 => absurd c_3 (by decide))
    refine lv_aload_n hx hb dX4_share_14 rfl (lv_at hl 0 rfl) ?_
    obtain ⟨I_4, hI_4, -⟩ := hW.2.1
    refine mw_gI S hK hI_4 8 (by decide) (fun _ => rfl) iw_654 rfl dX4_share_15 ?_
    refine lv_if_ne (tgt := 25) hx hb dX4_share_18 (by decide) (fun c_5 => ?_) (fun c_5 => ?_)
    · skip
      have i_5 : ¬ (I_4 8).toInt = 0 := by have h9 := pz_neq c_5; exact h9
      refine lv_sipush (v := 1000) hx hb dX4_share_25 (by decide) ?_
      refine lv_aload_n hx hb dX4_share_28 rfl (lv_at hl 0 rfl) ?_
      refine M_g19 S hK hW dX4_share_29 ?_
      refine lv_iload_n hx hb dX4_share_32 rfl (lv_at hl 1 rfl) ?_
      refine mw_ld S hK hW 19 rfl rfl (pz_vi (n := mN 19) (by rw [show mN 19 = 8 from rfl]; omega) (by decide)) dX4_share_33 (fun x_6 hx_6 => ?_)
      refine lv_imul hx hb dX4_share_34 ?_
      refine lv_topi (fun x_7 _ => ?_)
      refine lv_aload_n hx hb dX4_share_35 rfl (lv_at hl 0 rfl) ?_
      refine mw_gI S hK hI_4 8 (by decide) (fun _ => rfl) iw_654 rfl dX4_share_36 ?_
      refine lv_idiv hx hb dX4_share_39 c_5 ?_
      refine lv_topi (fun x_8 _ => ?_)
      exact r_i (v := x_8) hx hb hr hlocks hS dX4_share_40 (⟨_, rfl, hW⟩)
    · skip
      have i_5 : (I_4 8).toInt = 0 := by have h9 := pz_eq c_5; exact h9
      refine lv_iconst (v := 0) hx hb dX4_share_21 (by decide) ?_
      refine lv_goto (tgt := 40) hx hb dX4_share_22 (by decide) ?_
      exact r_i (v := 0) hx hb hr hlocks hS dX4_share_40 (⟨_, rfl, hW⟩)
  · skip
    refine lv_if_ne (tgt := 14) hx hb dX4_share_5 (by decide) (fun c_9 => absurd c_9 (by decide)) (fun c_9 => ?_)
    refine lv_aload_n hx hb dX4_share_8 rfl (lv_at hl 0 rfl) ?_
    refine lv_iconst (v := (-1)) hx hb dX4_share_9 (by decide) ?_
    refine c_v (n := 1) (As := [.int (-1)]) (rest := []) S (q_X4_refuse l dC dI h0 R A V G (-1) (by unfold vp_in; decide)) iw_787 iw_784 iw_786 iw_33 iw_61 (by decide +kernel) rfl ⟨rfl, rfl, Nat.le_of_ble_eq_true rfl, Nat.le_of_ble_eq_true rfl⟩ Kt.blind (M_recv hK hW) hK.at hW hl.1 rfl (by decide) dX4_share_10 ⟨Nat.le_refl _, Nat.le_refl _⟩ hS (fun _ h9 => h9) (fun v9 H locs hB hz9 hk9 hS => ?_)
    refine W.widen (k := 0) (n := 0) (Nat.le_refl 0) (Nat.le_refl 0) ?_
    obtain ⟨_, rfl, rfl, hW⟩ := hB
    refine W.eq (g2 := F0 m 13 ls [.int (-1)]) rfl ?_
    exact r_i (v := (-1)) hx hb hr hlocks hS dX4_share_13 (⟨_, rfl, hW⟩)

abbrev B_q_X4_markOf  (A : Nat → Prop) (P : Heap → Prop) (s0 : Int32) (m0 : Int32) : Option Value → Heap → Prop := fun v H => ∃ r : Int32, v = some (.int r) ∧ r = gMk s0 m0 ∧ P H
set_option maxHeartbeats 8000000 in
set_option maxRecDepth 20000 in
theorem q_X4_markOf (l : Launch) (A : Nat → Prop) (P : Heap → Prop) (s0 : Int32) (m0 : Int32) : Met l yX4_markOf (cws yX4_markOf cX4_markOf 2 (some .int)) { frames := 0, cells := 0, slots := 0, locals := 0 } (va_Pc [.int s0, .int m0] (fun U => True ∧ P U.heap)) (Qg (B_q_X4_markOf A P s0 m0) A) 0 0 A := by
  refine m_start (KK := fun _ => True) (Pw := P) (by decide) (Nat.le_of_ble_eq_true rfl) ?_
  intro p e s m below meth c ls S hr hlocks hin hK hW hS hl
  obtain ⟨hx, hb, hml, hown, hts⟩ := id S
  have hl : lv_has ls 2 [(0, .int s0), (1, .int m0)] := hl
  refine lv_ldc hx hb hown (hts _ iw_857) dX4_markOf_0 ?_
  refine lv_iconst (v := 4) hx hb dX4_markOf_2 (by decide) ?_
  refine lv_iload_n hx hb dX4_markOf_3 rfl (lv_at hl 0 rfl) ?_
  refine lv_imul hx hb dX4_markOf_4 ?_
  refine lv_iload_n hx hb dX4_markOf_5 rfl (lv_at hl 1 rfl) ?_
  refine lv_iadd hx hb dX4_markOf_6 ?_
  refine lv_iconst (v := 1) hx hb dX4_markOf_7 (by decide) ?_
  refine lv_iadd hx hb dX4_markOf_8 ?_
  refine lv_imul hx hb dX4_markOf_9 ?_
  refine lv_ldc hx hb hown (hts _ iw_829) dX4_markOf_10 ?_
  refine lv_irem hx hb dX4_markOf_12 (by decide) ?_
  exact r_i (v := ((40503 * (((4 * s0) + m0) + 1)) - (40503 * (((4 * s0) + m0) + 1)) / 65536 * 65536)) hx hb hr hlocks hS dX4_markOf_13 (⟨_, rfl, rfl, hW⟩)

abbrev B_q_X4_mark (dC : Nat → ClassId) (dI : Nat → Nat → Nat) (h0 : Nat) (R : Nat → Nat) (A : Nat → Prop) (V : Nat → Int32) (G : Nat → Nat → Int32) (ns : Nat) (a1 : Int32) (a2 : Int32) : Option Value → Heap → Prop := fun v H => ∃ r : Int32, v = some (.int r) ∧ r = exMark ns a1 a2 ∧ Mw dC dI h0 R A V G H
set_option maxHeartbeats 8000000 in
set_option maxRecDepth 20000 in
theorem q_X4_mark (l : Launch) (dC : Nat → ClassId) (dI : Nat → Nat → Nat) (h0 : Nat) (R : Nat → Nat) (A : Nat → Prop) (V : Nat → Int32) (G : Nat → Nat → Int32) (ns : Nat) (a1 : Int32) (a2 : Int32) (hV2 : V 2 = nI ns) (hns : ns ≤ 8) : Met l yX4_mark (cws yX4_mark cX4_mark 3 (some .int)) { frames := 2, cells := 0, slots := 0, locals := 42 } (va_Pc [.ref h0, .int a1, .int a2] (fun U => Kt dC dI U ∧ Mw dC dI h0 R A V G U.heap)) (Qg (B_q_X4_mark dC dI h0 R A V G ns a1 a2) A) 0 0 A := by
  refine m_start (KK := Kt dC dI) (Pw := Mw dC dI h0 R A V G) (by decide) (Nat.le_of_ble_eq_true rfl) ?_
  intro p e s m below meth c ls S hr hlocks hin hK hW hS hl
  obtain ⟨hx, hb, hml, hown, hts⟩ := id S
  have hl : lv_has ls 3 [(0, .ref h0), (1, .int a1), (2, .int a2)] := hl
  have en_s : (nI ns).toInt = ((ns : Nat) : Int) := pz_ti (by omega)
  refine lv_aload_n hx hb dX4_mark_0 rfl (lv_at hl 0 rfl) ?_
  refine lv_iload_n hx hb dX4_mark_1 rfl (lv_at hl 1 rfl) ?_
  refine c_v (n := 1) (As := [.int a1]) (rest := []) S (q_X4_isServer l dC dI h0 R A V G ns a1 hV2 (by omega)) iw_795 iw_792 iw_794 iw_34 iw_61 (by decide +kernel) rfl ⟨rfl, rfl, Nat.le_of_ble_eq_true rfl, Nat.le_of_ble_eq_true rfl⟩ Kt.blind (M_recv hK hW) hK.at hW hl.1 rfl (by decide) dX4_mark_2 ⟨Nat.le_refl _, Nat.le_refl _⟩ hS (fun _ h9 => h9) (fun v9 H locs hB hz9 hk9 hS => ?_)
  refine W.widen (k := 0) (n := 0) (Nat.le_refl 0) (Nat.le_refl 0) ?_
  obtain ⟨r_1, rfl, hr_1, hW⟩ := hB
  refine W.eq (g2 := F0 m 5 ls [.int r_1]) rfl ?_
  rcases hr_1 with ⟨ha_1, hb_1, rfl⟩ | ⟨ha_1, rfl⟩
  · skip
    obtain ⟨j_1, hj_1, ej_1⟩ := pz_of ha_1 hb_1
    subst ej_1
    have en_2 : (nI j_1).toInt = ((j_1 : Nat) : Int) := pz_ti (by omega)
    refine lv_if_ne (tgt := 14) hx hb dX4_mark_5 (by decide) (fun c_3 => ?_) (fun c_3 => absurd c_3 (by decide))
    refine lv_iload_n hx hb dX4_mark_14 rfl (lv_at hl 2 rfl) ?_
    refine lv_iconst (v := 4) hx hb dX4_mark_15 (by decide) ?_
    refine c_s (n := 2) (As := [.int a2, .int 4]) (rest := []) S (q_X4_isIn l A (Mw dC dI h0 R A V G) a2 4) iw_783 iw_781 iw_782 iw_61 (by decide +kernel) rfl ⟨rfl, rfl, Nat.le_of_ble_eq_true rfl, Nat.le_of_ble_eq_true rfl⟩ (fun _ _ _ _ _ => trivial) (fun _ _ _ => trivial) hW hl.1 rfl (by decide) dX4_mark_16 ⟨Nat.le_refl _, Nat.le_refl _⟩ hS (fun _ h9 => h9) (fun v9 H locs hB hz9 hk9 hS => ?_)
    refine W.widen (k := 0) (n := 0) (Nat.le_refl 0) (Nat.le_refl 0) ?_
    obtain ⟨r_4, rfl, hr_4, hW⟩ := hB
    refine W.eq (g2 := F0 m 19 ls [.int r_4]) rfl ?_
    rcases hr_4 with ⟨ha_4, hb_4, rfl⟩ | ⟨ha_4, rfl⟩
    · skip
      have hb_4 : a2.toInt < 4 := by have h9 := hb_4; exact h9
      refine lv_if_eq (tgt := 30) hx hb dX4_mark_19 (by decide) (fun c_5 => absurd c_5 (by decide)) (fun c_5 => ?_)
      refine lv_iload_n hx hb dX4_mark_22 rfl (lv_at hl 1 rfl) ?_
      refine lv_iload_n hx hb dX4_mark_23 rfl (lv_at hl 2 rfl) ?_
      refine c_s (n := 2) (As := [.int (nI j_1), .int a2]) (rest := []) S (q_X4_markOf l A (Mw dC dI h0 R A V G) (nI j_1) a2) iw_856 iw_854 iw_855 iw_61 (by decide +kernel) rfl ⟨rfl, rfl, Nat.le_of_ble_eq_true rfl, Nat.le_of_ble_eq_true rfl⟩ (fun _ _ _ _ _ => trivial) (fun _ _ _ => trivial) hW hl.1 rfl (by decide) dX4_mark_24 ⟨Nat.le_refl _, Nat.le_refl _⟩ hS (fun _ h9 => h9) (fun v9 H locs hB hz9 hk9 hS => ?_)
      refine W.widen (k := 0) (n := 0) (Nat.le_refl 0) (Nat.le_refl 0) ?_
      obtain ⟨r_6, rfl, hr_6, hW⟩ := hB
      refine W.eq (g2 := F0 m 27 ls [.int r_6]) rfl ?_
      refine lv_goto (tgt := 36) hx hb dX4_mark_27 (by decide) ?_
      exact r_i (v := r_6) hx hb hr hlocks hS dX4_mark_36 (⟨_, rfl, by unfold exMark; (repeat' split) <;> first | rfl | assumption | (exfalso; omega), hW⟩)
    · skip
      have ha_4 : a2.toInt < 0 ∨ 4 ≤ a2.toInt := by have h9 := ha_4; exact h9
      refine lv_if_eq (tgt := 30) hx hb dX4_mark_19 (by decide) (fun c_7 => ?_) (fun c_7 => absurd (by decide) c_7)
      refine lv_aload_n hx hb dX4_mark_30 rfl (lv_at hl 0 rfl) ?_
      refine lv_bipush (v := (-2)) hx hb dX4_mark_31 (by decide) ?_
      refine c_v (n := 1) (As := [.int (-2)]) (rest := []) S (q_X4_refuse l dC dI h0 R A V G (-2) (by unfold vp_in; decide)) iw_787 iw_784 iw_786 iw_33 iw_61 (by decide +kernel) rfl ⟨rfl, rfl, Nat.le_of_ble_eq_true rfl, Nat.le_of_ble_eq_true rfl⟩ Kt.blind (M_recv hK hW) hK.at hW hl.1 rfl (by decide) dX4_mark_33 ⟨Nat.le_refl _, Nat.le_refl _⟩ hS (fun _ h9 => h9) (fun v9 H locs hB hz9 hk9 hS => ?_)
      refine W.widen (k := 0) (n := 0) (Nat.le_refl 0) (Nat.le_refl 0) ?_
      obtain ⟨_, rfl, rfl, hW⟩ := hB
      refine W.eq (g2 := F0 m 36 ls [.int (-2)]) rfl ?_
      exact r_i (v := (-2)) hx hb hr hlocks hS dX4_mark_36 (⟨_, rfl, by unfold exMark; (repeat' split) <;> first | rfl | assumption | (exfalso; omega), hW⟩)
  · skip
    refine lv_if_ne (tgt := 14) hx hb dX4_mark_5 (by decide) (fun c_9 => absurd c_9 (by decide)) (fun c_9 => ?_)
    refine lv_aload_n hx hb dX4_mark_8 rfl (lv_at hl 0 rfl) ?_
    refine lv_iconst (v := (-1)) hx hb dX4_mark_9 (by decide) ?_
    refine c_v (n := 1) (As := [.int (-1)]) (rest := []) S (q_X4_refuse l dC dI h0 R A V G (-1) (by unfold vp_in; decide)) iw_787 iw_784 iw_786 iw_33 iw_61 (by decide +kernel) rfl ⟨rfl, rfl, Nat.le_of_ble_eq_true rfl, Nat.le_of_ble_eq_true rfl⟩ Kt.blind (M_recv hK hW) hK.at hW hl.1 rfl (by decide) dX4_mark_10 ⟨Nat.le_refl _, Nat.le_refl _⟩ hS (fun _ h9 => h9) (fun v9 H locs hB hz9 hk9 hS => ?_)
    refine W.widen (k := 0) (n := 0) (Nat.le_refl 0) (Nat.le_refl 0) ?_
    obtain ⟨_, rfl, rfl, hW⟩ := hB
    refine W.eq (g2 := F0 m 13 ls [.int (-1)]) rfl ?_
    exact r_i (v := (-1)) hx hb hr hlocks hS dX4_mark_13 (⟨_, rfl, by unfold exMark; (repeat' split) <;> first | rfl | assumption | (exfalso; omega), hW⟩)
end
