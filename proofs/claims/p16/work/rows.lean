section
-- ===== PART A: goes FIRST, ahead of the names: the tables' words, and 'selects' of the private methods out of them =====
/-- a private method of a class that the tables say can be made, by its rows of tables_1 -/
def lw_okq (q : MethodName × Nat) : Prop := (q.1.cls ≠ "java/lang/invoke/MethodHandle" ∧ q.1.cls ≠ "java/lang/invoke/VarHandle") ∧ Cond.instantiable q.1.cls q.2 ∈ tables_1 ∧ Cond.privateMethod q.1 ∈ tables_1 ∧ Cond.instanceMethod q.1 ∈ tables_1
theorem lw_p0 : lw_okq (⟨"FrontDoor", "refuse", "(I)I"⟩, 13) := ⟨⟨by decide +kernel, by decide +kernel⟩, List.mem_of_getElem? (i := 16) (by decide +kernel), List.mem_of_getElem? (i := 95) (by decide +kernel), List.mem_of_getElem? (i := 96) (by decide +kernel)⟩
theorem lw_p1 : lw_okq (⟨"java/util/ArrayList", "add", "(Ljava/lang/Object;[Ljava/lang/Object;I)V"⟩, 3) := ⟨⟨by decide +kernel, by decide +kernel⟩, List.mem_of_getElem? (i := 24) (by decide +kernel), List.mem_of_getElem? (i := 178) (by decide +kernel), List.mem_of_getElem? (i := 179) (by decide +kernel)⟩
theorem lw_p2 : lw_okq (⟨"java/util/ArrayList", "grow", "()[Ljava/lang/Object;"⟩, 3) := ⟨⟨by decide +kernel, by decide +kernel⟩, List.mem_of_getElem? (i := 24) (by decide +kernel), List.mem_of_getElem? (i := 182) (by decide +kernel), List.mem_of_getElem? (i := 183) (by decide +kernel)⟩
theorem lw_p3 : lw_okq (⟨"java/util/ArrayList", "grow", "(I)[Ljava/lang/Object;"⟩, 3) := ⟨⟨by decide +kernel, by decide +kernel⟩, List.mem_of_getElem? (i := 24) (by decide +kernel), List.mem_of_getElem? (i := 186) (by decide +kernel), List.mem_of_getElem? (i := 187) (by decide +kernel)⟩
theorem lw_p4 : lw_okq (⟨"FrontDoor", "serverAt", "(I)LFrontDoor$Server;"⟩, 13) := ⟨⟨by decide +kernel, by decide +kernel⟩, List.mem_of_getElem? (i := 16) (by decide +kernel), List.mem_of_getElem? (i := 231) (by decide +kernel), List.mem_of_getElem? (i := 232) (by decide +kernel)⟩
theorem lw_p5 : lw_okq (⟨"FrontDoor", "askByRule", "(LFrontDoor$Call;)Z"⟩, 13) := ⟨⟨by decide +kernel, by decide +kernel⟩, List.mem_of_getElem? (i := 16) (by decide +kernel), List.mem_of_getElem? (i := 349) (by decide +kernel), List.mem_of_getElem? (i := 350) (by decide +kernel)⟩
theorem lw_p6 : lw_okq (⟨"FrontDoor", "chosen", "(II)LFrontDoor$Server;"⟩, 13) := ⟨⟨by decide +kernel, by decide +kernel⟩, List.mem_of_getElem? (i := 16) (by decide +kernel), List.mem_of_getElem? (i := 353) (by decide +kernel), List.mem_of_getElem? (i := 354) (by decide +kernel)⟩
theorem lw_p7 : lw_okq (⟨"FrontDoor", "byTurn", "(I)LFrontDoor$Server;"⟩, 13) := ⟨⟨by decide +kernel, by decide +kernel⟩, List.mem_of_getElem? (i := 16) (by decide +kernel), List.mem_of_getElem? (i := 357) (by decide +kernel), List.mem_of_getElem? (i := 358) (by decide +kernel)⟩
theorem lw_p8 : lw_okq (⟨"FrontDoor", "byRing", "(II)LFrontDoor$Server;"⟩, 13) := ⟨⟨by decide +kernel, by decide +kernel⟩, List.mem_of_getElem? (i := 16) (by decide +kernel), List.mem_of_getElem? (i := 365) (by decide +kernel), List.mem_of_getElem? (i := 366) (by decide +kernel)⟩
theorem lw_p9 : lw_okq (⟨"FrontDoor", "byFewest", "(II)LFrontDoor$Server;"⟩, 13) := ⟨⟨by decide +kernel, by decide +kernel⟩, List.mem_of_getElem? (i := 16) (by decide +kernel), List.mem_of_getElem? (i := 381) (by decide +kernel), List.mem_of_getElem? (i := 382) (by decide +kernel)⟩
theorem lw_p10 : lw_okq (⟨"FrontDoor", "settleCredits", "(ILFrontDoor$Server;)V"⟩, 13) := ⟨⟨by decide +kernel, by decide +kernel⟩, List.mem_of_getElem? (i := 16) (by decide +kernel), List.mem_of_getElem? (i := 385) (by decide +kernel), List.mem_of_getElem? (i := 386) (by decide +kernel)⟩
theorem lw_p11 : lw_okq (⟨"FrontDoor", "joinLine", "(LFrontDoor$Call;)V"⟩, 13) := ⟨⟨by decide +kernel, by decide +kernel⟩, List.mem_of_getElem? (i := 16) (by decide +kernel), List.mem_of_getElem? (i := 421) (by decide +kernel), List.mem_of_getElem? (i := 422) (by decide +kernel)⟩
theorem lw_p12 : lw_okq (⟨"java/util/ArrayList", "rangeCheckForAdd", "(I)V"⟩, 3) := ⟨⟨by decide +kernel, by decide +kernel⟩, List.mem_of_getElem? (i := 24) (by decide +kernel), List.mem_of_getElem? (i := 433) (by decide +kernel), List.mem_of_getElem? (i := 434) (by decide +kernel)⟩
theorem lw_p13 : lw_okq (⟨"FrontDoor", "callAt", "(I)LFrontDoor$Call;"⟩, 13) := ⟨⟨by decide +kernel, by decide +kernel⟩, List.mem_of_getElem? (i := 16) (by decide +kernel), List.mem_of_getElem? (i := 442) (by decide +kernel), List.mem_of_getElem? (i := 443) (by decide +kernel)⟩
theorem lw_p14 : lw_okq (⟨"FrontDoor", "leaveLine", "(LFrontDoor$Call;)V"⟩, 13) := ⟨⟨by decide +kernel, by decide +kernel⟩, List.mem_of_getElem? (i := 16) (by decide +kernel), List.mem_of_getElem? (i := 450) (by decide +kernel), List.mem_of_getElem? (i := 451) (by decide +kernel)⟩
theorem lw_p15 : lw_okq (⟨"java/util/ArrayList", "fastRemove", "([Ljava/lang/Object;I)V"⟩, 3) := ⟨⟨by decide +kernel, by decide +kernel⟩, List.mem_of_getElem? (i := 24) (by decide +kernel), List.mem_of_getElem? (i := 458) (by decide +kernel), List.mem_of_getElem? (i := 459) (by decide +kernel)⟩
def lw_privs_1 : List (MethodName × Nat) := [(⟨"FrontDoor", "refuse", "(I)I"⟩, 13), (⟨"java/util/ArrayList", "add", "(Ljava/lang/Object;[Ljava/lang/Object;I)V"⟩, 3), (⟨"java/util/ArrayList", "grow", "()[Ljava/lang/Object;"⟩, 3), (⟨"java/util/ArrayList", "grow", "(I)[Ljava/lang/Object;"⟩, 3), (⟨"FrontDoor", "serverAt", "(I)LFrontDoor$Server;"⟩, 13), (⟨"FrontDoor", "askByRule", "(LFrontDoor$Call;)Z"⟩, 13), (⟨"FrontDoor", "chosen", "(II)LFrontDoor$Server;"⟩, 13), (⟨"FrontDoor", "byTurn", "(I)LFrontDoor$Server;"⟩, 13), (⟨"FrontDoor", "byRing", "(II)LFrontDoor$Server;"⟩, 13), (⟨"FrontDoor", "byFewest", "(II)LFrontDoor$Server;"⟩, 13), (⟨"FrontDoor", "settleCredits", "(ILFrontDoor$Server;)V"⟩, 13), (⟨"FrontDoor", "joinLine", "(LFrontDoor$Call;)V"⟩, 13), (⟨"java/util/ArrayList", "rangeCheckForAdd", "(I)V"⟩, 3), (⟨"FrontDoor", "callAt", "(I)LFrontDoor$Call;"⟩, 13), (⟨"FrontDoor", "leaveLine", "(LFrontDoor$Call;)V"⟩, 13), (⟨"java/util/ArrayList", "fastRemove", "([Ljava/lang/Object;I)V"⟩, 3)]
theorem lw_r1 : ∀ q ∈ lw_privs_1, lw_okq q := List.forall_mem_cons.mpr ⟨lw_p0, List.forall_mem_cons.mpr ⟨lw_p1, List.forall_mem_cons.mpr ⟨lw_p2, List.forall_mem_cons.mpr ⟨lw_p3, List.forall_mem_cons.mpr ⟨lw_p4, List.forall_mem_cons.mpr ⟨lw_p5, List.forall_mem_cons.mpr ⟨lw_p6, List.forall_mem_cons.mpr ⟨lw_p7, List.forall_mem_cons.mpr ⟨lw_p8, List.forall_mem_cons.mpr ⟨lw_p9, List.forall_mem_cons.mpr ⟨lw_p10, List.forall_mem_cons.mpr ⟨lw_p11, List.forall_mem_cons.mpr ⟨lw_p12, List.forall_mem_cons.mpr ⟨lw_p13, List.forall_mem_cons.mpr ⟨lw_p14, List.forall_mem_cons.mpr ⟨lw_p15, fun _ h => absurd h List.not_mem_nil⟩⟩⟩⟩⟩⟩⟩⟩⟩⟩⟩⟩⟩⟩⟩⟩
theorem lw_p16 : lw_okq (⟨"FrontDoor", "end", "(LFrontDoor$Call;I)V"⟩, 13) := ⟨⟨by decide +kernel, by decide +kernel⟩, List.mem_of_getElem? (i := 16) (by decide +kernel), List.mem_of_getElem? (i := 470) (by decide +kernel), List.mem_of_getElem? (i := 471) (by decide +kernel)⟩
theorem lw_p17 : lw_okq (⟨"FrontDoor", "dropEnded", "()V"⟩, 13) := ⟨⟨by decide +kernel, by decide +kernel⟩, List.mem_of_getElem? (i := 16) (by decide +kernel), List.mem_of_getElem? (i := 474) (by decide +kernel), List.mem_of_getElem? (i := 475) (by decide +kernel)⟩
theorem lw_p18 : lw_okq (⟨"FrontDoor", "passTick", "()V"⟩, 13) := ⟨⟨by decide +kernel, by decide +kernel⟩, List.mem_of_getElem? (i := 16) (by decide +kernel), List.mem_of_getElem? (i := 482) (by decide +kernel), List.mem_of_getElem? (i := 483) (by decide +kernel)⟩
theorem lw_p19 : lw_okq (⟨"FrontDoor", "takeWhatIsOver", "()V"⟩, 13) := ⟨⟨by decide +kernel, by decide +kernel⟩, List.mem_of_getElem? (i := 16) (by decide +kernel), List.mem_of_getElem? (i := 486) (by decide +kernel), List.mem_of_getElem? (i := 487) (by decide +kernel)⟩
theorem lw_p20 : lw_okq (⟨"FrontDoor", "takeAnswer", "(LFrontDoor$Call;LFrontDoor$Asking;)V"⟩, 13) := ⟨⟨by decide +kernel, by decide +kernel⟩, List.mem_of_getElem? (i := 16) (by decide +kernel), List.mem_of_getElem? (i := 490) (by decide +kernel), List.mem_of_getElem? (i := 491) (by decide +kernel)⟩
theorem lw_p21 : lw_okq (⟨"FrontDoor", "failureOf", "(LFrontDoor$Server;)V"⟩, 13) := ⟨⟨by decide +kernel, by decide +kernel⟩, List.mem_of_getElem? (i := 16) (by decide +kernel), List.mem_of_getElem? (i := 499) (by decide +kernel), List.mem_of_getElem? (i := 500) (by decide +kernel)⟩
theorem lw_p22 : lw_okq (⟨"FrontDoor", "oneMoreOutIsTooMany", "()Z"⟩, 13) := ⟨⟨by decide +kernel, by decide +kernel⟩, List.mem_of_getElem? (i := 16) (by decide +kernel), List.mem_of_getElem? (i := 503) (by decide +kernel), List.mem_of_getElem? (i := 504) (by decide +kernel)⟩
theorem lw_p23 : lw_okq (⟨"FrontDoor", "budgetHolds", "()Z"⟩, 13) := ⟨⟨by decide +kernel, by decide +kernel⟩, List.mem_of_getElem? (i := 16) (by decide +kernel), List.mem_of_getElem? (i := 511) (by decide +kernel), List.mem_of_getElem? (i := 512) (by decide +kernel)⟩
theorem lw_p24 : lw_okq (⟨"FrontDoor", "meetDues", "()V"⟩, 13) := ⟨⟨by decide +kernel, by decide +kernel⟩, List.mem_of_getElem? (i := 16) (by decide +kernel), List.mem_of_getElem? (i := 515) (by decide +kernel), List.mem_of_getElem? (i := 516) (by decide +kernel)⟩
theorem lw_p25 : lw_okq (⟨"FrontDoor", "failByDue", "(LFrontDoor$Call;)V"⟩, 13) := ⟨⟨by decide +kernel, by decide +kernel⟩, List.mem_of_getElem? (i := 16) (by decide +kernel), List.mem_of_getElem? (i := 519) (by decide +kernel), List.mem_of_getElem? (i := 520) (by decide +kernel)⟩
theorem lw_p26 : lw_okq (⟨"FrontDoor", "tryThoseOut", "()V"⟩, 13) := ⟨⟨by decide +kernel, by decide +kernel⟩, List.mem_of_getElem? (i := 16) (by decide +kernel), List.mem_of_getElem? (i := 523) (by decide +kernel), List.mem_of_getElem? (i := 524) (by decide +kernel)⟩
theorem lw_p27 : lw_okq (⟨"FrontDoor", "hedgeSlow", "()V"⟩, 13) := ⟨⟨by decide +kernel, by decide +kernel⟩, List.mem_of_getElem? (i := 16) (by decide +kernel), List.mem_of_getElem? (i := 527) (by decide +kernel), List.mem_of_getElem? (i := 528) (by decide +kernel)⟩
theorem lw_p28 : lw_okq (⟨"FrontDoor", "askQueued", "()V"⟩, 13) := ⟨⟨by decide +kernel, by decide +kernel⟩, List.mem_of_getElem? (i := 16) (by decide +kernel), List.mem_of_getElem? (i := 531) (by decide +kernel), List.mem_of_getElem? (i := 532) (by decide +kernel)⟩
theorem lw_p29 : lw_okq (⟨"FrontDoor", "letDrainedGo", "()V"⟩, 13) := ⟨⟨by decide +kernel, by decide +kernel⟩, List.mem_of_getElem? (i := 16) (by decide +kernel), List.mem_of_getElem? (i := 535) (by decide +kernel), List.mem_of_getElem? (i := 536) (by decide +kernel)⟩
theorem lw_p30 : lw_okq (⟨"FrontDoor", "askingsSoFar", "()I"⟩, 13) := ⟨⟨by decide +kernel, by decide +kernel⟩, List.mem_of_getElem? (i := 16) (by decide +kernel), List.mem_of_getElem? (i := 569) (by decide +kernel), List.mem_of_getElem? (i := 570) (by decide +kernel)⟩
theorem lw_p31 : lw_okq (⟨"FrontDoor", "callsThatAre", "(I)I"⟩, 13) := ⟨⟨by decide +kernel, by decide +kernel⟩, List.mem_of_getElem? (i := 16) (by decide +kernel), List.mem_of_getElem? (i := 577) (by decide +kernel), List.mem_of_getElem? (i := 578) (by decide +kernel)⟩
def lw_privs_2 : List (MethodName × Nat) := [(⟨"FrontDoor", "end", "(LFrontDoor$Call;I)V"⟩, 13), (⟨"FrontDoor", "dropEnded", "()V"⟩, 13), (⟨"FrontDoor", "passTick", "()V"⟩, 13), (⟨"FrontDoor", "takeWhatIsOver", "()V"⟩, 13), (⟨"FrontDoor", "takeAnswer", "(LFrontDoor$Call;LFrontDoor$Asking;)V"⟩, 13), (⟨"FrontDoor", "failureOf", "(LFrontDoor$Server;)V"⟩, 13), (⟨"FrontDoor", "oneMoreOutIsTooMany", "()Z"⟩, 13), (⟨"FrontDoor", "budgetHolds", "()Z"⟩, 13), (⟨"FrontDoor", "meetDues", "()V"⟩, 13), (⟨"FrontDoor", "failByDue", "(LFrontDoor$Call;)V"⟩, 13), (⟨"FrontDoor", "tryThoseOut", "()V"⟩, 13), (⟨"FrontDoor", "hedgeSlow", "()V"⟩, 13), (⟨"FrontDoor", "askQueued", "()V"⟩, 13), (⟨"FrontDoor", "letDrainedGo", "()V"⟩, 13), (⟨"FrontDoor", "askingsSoFar", "()I"⟩, 13), (⟨"FrontDoor", "callsThatAre", "(I)I"⟩, 13)]
theorem lw_r2 : ∀ q ∈ lw_privs_2, lw_okq q := List.forall_mem_cons.mpr ⟨lw_p16, List.forall_mem_cons.mpr ⟨lw_p17, List.forall_mem_cons.mpr ⟨lw_p18, List.forall_mem_cons.mpr ⟨lw_p19, List.forall_mem_cons.mpr ⟨lw_p20, List.forall_mem_cons.mpr ⟨lw_p21, List.forall_mem_cons.mpr ⟨lw_p22, List.forall_mem_cons.mpr ⟨lw_p23, List.forall_mem_cons.mpr ⟨lw_p24, List.forall_mem_cons.mpr ⟨lw_p25, List.forall_mem_cons.mpr ⟨lw_p26, List.forall_mem_cons.mpr ⟨lw_p27, List.forall_mem_cons.mpr ⟨lw_p28, List.forall_mem_cons.mpr ⟨lw_p29, List.forall_mem_cons.mpr ⟨lw_p30, List.forall_mem_cons.mpr ⟨lw_p31, fun _ h => absurd h List.not_mem_nil⟩⟩⟩⟩⟩⟩⟩⟩⟩⟩⟩⟩⟩⟩⟩⟩
theorem lw_p32 : lw_okq (⟨"FrontDoor", "openAskings", "()I"⟩, 13) := ⟨⟨by decide +kernel, by decide +kernel⟩, List.mem_of_getElem? (i := 16) (by decide +kernel), List.mem_of_getElem? (i := 581) (by decide +kernel), List.mem_of_getElem? (i := 582) (by decide +kernel)⟩
theorem lw_p33 : lw_okq (⟨"FrontDoorModel", "refuse", "(I)I"⟩, 43) := ⟨⟨by decide +kernel, by decide +kernel⟩, List.mem_of_getElem? (i := 585) (by decide +kernel), List.mem_of_getElem? (i := 729) (by decide +kernel), List.mem_of_getElem? (i := 730) (by decide +kernel)⟩
theorem lw_p34 : lw_okq (⟨"FrontDoorModel", "isServer", "(I)Z"⟩, 43) := ⟨⟨by decide +kernel, by decide +kernel⟩, List.mem_of_getElem? (i := 585) (by decide +kernel), List.mem_of_getElem? (i := 737) (by decide +kernel), List.mem_of_getElem? (i := 738) (by decide +kernel)⟩
theorem lw_p35 : lw_okq (⟨"FrontDoorModel", "asksFor", "(I)Z"⟩, 43) := ⟨⟨by decide +kernel, by decide +kernel⟩, List.mem_of_getElem? (i := 585) (by decide +kernel), List.mem_of_getElem? (i := 775) (by decide +kernel), List.mem_of_getElem? (i := 776) (by decide +kernel)⟩
theorem lw_p36 : lw_okq (⟨"FrontDoorModel", "mays", "(I)I"⟩, 43) := ⟨⟨by decide +kernel, by decide +kernel⟩, List.mem_of_getElem? (i := 585) (by decide +kernel), List.mem_of_getElem? (i := 779) (by decide +kernel), List.mem_of_getElem? (i := 780) (by decide +kernel)⟩
theorem lw_p37 : lw_okq (⟨"FrontDoorModel", "picked", "(IIZ)I"⟩, 43) := ⟨⟨by decide +kernel, by decide +kernel⟩, List.mem_of_getElem? (i := 585) (by decide +kernel), List.mem_of_getElem? (i := 783) (by decide +kernel), List.mem_of_getElem? (i := 784) (by decide +kernel)⟩
theorem lw_p38 : lw_okq (⟨"FrontDoorModel", "byTurns", "(IZ)I"⟩, 43) := ⟨⟨by decide +kernel, by decide +kernel⟩, List.mem_of_getElem? (i := 585) (by decide +kernel), List.mem_of_getElem? (i := 787) (by decide +kernel), List.mem_of_getElem? (i := 788) (by decide +kernel)⟩
theorem lw_p39 : lw_okq (⟨"FrontDoorModel", "fewest", "(I)I"⟩, 43) := ⟨⟨by decide +kernel, by decide +kernel⟩, List.mem_of_getElem? (i := 585) (by decide +kernel), List.mem_of_getElem? (i := 791) (by decide +kernel), List.mem_of_getElem? (i := 792) (by decide +kernel)⟩
theorem lw_p40 : lw_okq (⟨"FrontDoorModel", "onRing", "(II)I"⟩, 43) := ⟨⟨by decide +kernel, by decide +kernel⟩, List.mem_of_getElem? (i := 585) (by decide +kernel), List.mem_of_getElem? (i := 795) (by decide +kernel), List.mem_of_getElem? (i := 796) (by decide +kernel)⟩
theorem lw_p41 : lw_okq (⟨"FrontDoorModel", "near", "(II)I"⟩, 43) := ⟨⟨by decide +kernel, by decide +kernel⟩, List.mem_of_getElem? (i := 585) (by decide +kernel), List.mem_of_getElem? (i := 803) (by decide +kernel), List.mem_of_getElem? (i := 804) (by decide +kernel)⟩
theorem lw_p42 : lw_okq (⟨"FrontDoorModel", "ask", "(II)V"⟩, 43) := ⟨⟨by decide +kernel, by decide +kernel⟩, List.mem_of_getElem? (i := 585) (by decide +kernel), List.mem_of_getElem? (i := 807) (by decide +kernel), List.mem_of_getElem? (i := 808) (by decide +kernel)⟩
theorem lw_p43 : lw_okq (⟨"FrontDoorModel", "isCall", "(I)Z"⟩, 43) := ⟨⟨by decide +kernel, by decide +kernel⟩, List.mem_of_getElem? (i := 585) (by decide +kernel), List.mem_of_getElem? (i := 816) (by decide +kernel), List.mem_of_getElem? (i := 817) (by decide +kernel)⟩
theorem lw_p44 : lw_okq (⟨"FrontDoorModel", "ends", "(II)V"⟩, 43) := ⟨⟨by decide +kernel, by decide +kernel⟩, List.mem_of_getElem? (i := 585) (by decide +kernel), List.mem_of_getElem? (i := 820) (by decide +kernel), List.mem_of_getElem? (i := 821) (by decide +kernel)⟩
theorem lw_p45 : lw_okq (⟨"FrontDoorModel", "takes", "(II)V"⟩, 43) := ⟨⟨by decide +kernel, by decide +kernel⟩, List.mem_of_getElem? (i := 585) (by decide +kernel), List.mem_of_getElem? (i := 824) (by decide +kernel), List.mem_of_getElem? (i := 825) (by decide +kernel)⟩
theorem lw_p46 : lw_okq (⟨"FrontDoorModel", "goesOn", "()I"⟩, 43) := ⟨⟨by decide +kernel, by decide +kernel⟩, List.mem_of_getElem? (i := 585) (by decide +kernel), List.mem_of_getElem? (i := 832) (by decide +kernel), List.mem_of_getElem? (i := 833) (by decide +kernel)⟩
theorem lw_p47 : lw_okq (⟨"FrontDoorModel", "comesBack", "(I)Z"⟩, 43) := ⟨⟨by decide +kernel, by decide +kernel⟩, List.mem_of_getElem? (i := 585) (by decide +kernel), List.mem_of_getElem? (i := 836) (by decide +kernel), List.mem_of_getElem? (i := 837) (by decide +kernel)⟩
def lw_privs_3 : List (MethodName × Nat) := [(⟨"FrontDoor", "openAskings", "()I"⟩, 13), (⟨"FrontDoorModel", "refuse", "(I)I"⟩, 43), (⟨"FrontDoorModel", "isServer", "(I)Z"⟩, 43), (⟨"FrontDoorModel", "asksFor", "(I)Z"⟩, 43), (⟨"FrontDoorModel", "mays", "(I)I"⟩, 43), (⟨"FrontDoorModel", "picked", "(IIZ)I"⟩, 43), (⟨"FrontDoorModel", "byTurns", "(IZ)I"⟩, 43), (⟨"FrontDoorModel", "fewest", "(I)I"⟩, 43), (⟨"FrontDoorModel", "onRing", "(II)I"⟩, 43), (⟨"FrontDoorModel", "near", "(II)I"⟩, 43), (⟨"FrontDoorModel", "ask", "(II)V"⟩, 43), (⟨"FrontDoorModel", "isCall", "(I)Z"⟩, 43), (⟨"FrontDoorModel", "ends", "(II)V"⟩, 43), (⟨"FrontDoorModel", "takes", "(II)V"⟩, 43), (⟨"FrontDoorModel", "goesOn", "()I"⟩, 43), (⟨"FrontDoorModel", "comesBack", "(I)Z"⟩, 43)]
theorem lw_r3 : ∀ q ∈ lw_privs_3, lw_okq q := List.forall_mem_cons.mpr ⟨lw_p32, List.forall_mem_cons.mpr ⟨lw_p33, List.forall_mem_cons.mpr ⟨lw_p34, List.forall_mem_cons.mpr ⟨lw_p35, List.forall_mem_cons.mpr ⟨lw_p36, List.forall_mem_cons.mpr ⟨lw_p37, List.forall_mem_cons.mpr ⟨lw_p38, List.forall_mem_cons.mpr ⟨lw_p39, List.forall_mem_cons.mpr ⟨lw_p40, List.forall_mem_cons.mpr ⟨lw_p41, List.forall_mem_cons.mpr ⟨lw_p42, List.forall_mem_cons.mpr ⟨lw_p43, List.forall_mem_cons.mpr ⟨lw_p44, List.forall_mem_cons.mpr ⟨lw_p45, List.forall_mem_cons.mpr ⟨lw_p46, List.forall_mem_cons.mpr ⟨lw_p47, fun _ h => absurd h List.not_mem_nil⟩⟩⟩⟩⟩⟩⟩⟩⟩⟩⟩⟩⟩⟩⟩⟩
theorem lw_p48 : lw_okq (⟨"FrontDoorModel", "answer", "(I)V"⟩, 43) := ⟨⟨by decide +kernel, by decide +kernel⟩, List.mem_of_getElem? (i := 585) (by decide +kernel), List.mem_of_getElem? (i := 840) (by decide +kernel), List.mem_of_getElem? (i := 841) (by decide +kernel)⟩
theorem lw_p49 : lw_okq (⟨"FrontDoorModel", "failure", "(I)V"⟩, 43) := ⟨⟨by decide +kernel, by decide +kernel⟩, List.mem_of_getElem? (i := 585) (by decide +kernel), List.mem_of_getElem? (i := 844) (by decide +kernel), List.mem_of_getElem? (i := 845) (by decide +kernel)⟩
theorem lw_p50 : lw_okq (⟨"FrontDoorModel", "outsNow", "(Z)I"⟩, 43) := ⟨⟨by decide +kernel, by decide +kernel⟩, List.mem_of_getElem? (i := 585) (by decide +kernel), List.mem_of_getElem? (i := 848) (by decide +kernel), List.mem_of_getElem? (i := 849) (by decide +kernel)⟩
theorem lw_p51 : lw_okq (⟨"FrontDoorModel", "isDue", "(I)Z"⟩, 43) := ⟨⟨by decide +kernel, by decide +kernel⟩, List.mem_of_getElem? (i := 585) (by decide +kernel), List.mem_of_getElem? (i := 853) (by decide +kernel), List.mem_of_getElem? (i := 854) (by decide +kernel)⟩
theorem lw_p52 : lw_okq (⟨"FrontDoorModel", "hedges", "(I)V"⟩, 43) := ⟨⟨by decide +kernel, by decide +kernel⟩, List.mem_of_getElem? (i := 585) (by decide +kernel), List.mem_of_getElem? (i := 857) (by decide +kernel), List.mem_of_getElem? (i := 858) (by decide +kernel)⟩
theorem lw_p53 : lw_okq (⟨"FrontDoorModel", "line", "()V"⟩, 43) := ⟨⟨by decide +kernel, by decide +kernel⟩, List.mem_of_getElem? (i := 585) (by decide +kernel), List.mem_of_getElem? (i := 861) (by decide +kernel), List.mem_of_getElem? (i := 862) (by decide +kernel)⟩
theorem lw_p54 : lw_okq (⟨"FrontDoorModel", "isAhead", "(II)Z"⟩, 43) := ⟨⟨by decide +kernel, by decide +kernel⟩, List.mem_of_getElem? (i := 585) (by decide +kernel), List.mem_of_getElem? (i := 865) (by decide +kernel), List.mem_of_getElem? (i := 866) (by decide +kernel)⟩
theorem lw_p55 : lw_okq (⟨"FrontDoorModel", "inState", "(I)I"⟩, 43) := ⟨⟨by decide +kernel, by decide +kernel⟩, List.mem_of_getElem? (i := 585) (by decide +kernel), List.mem_of_getElem? (i := 894) (by decide +kernel), List.mem_of_getElem? (i := 895) (by decide +kernel)⟩
def lw_privs_4 : List (MethodName × Nat) := [(⟨"FrontDoorModel", "answer", "(I)V"⟩, 43), (⟨"FrontDoorModel", "failure", "(I)V"⟩, 43), (⟨"FrontDoorModel", "outsNow", "(Z)I"⟩, 43), (⟨"FrontDoorModel", "isDue", "(I)Z"⟩, 43), (⟨"FrontDoorModel", "hedges", "(I)V"⟩, 43), (⟨"FrontDoorModel", "line", "()V"⟩, 43), (⟨"FrontDoorModel", "isAhead", "(II)Z"⟩, 43), (⟨"FrontDoorModel", "inState", "(I)I"⟩, 43)]
theorem lw_r4 : ∀ q ∈ lw_privs_4, lw_okq q := List.forall_mem_cons.mpr ⟨lw_p48, List.forall_mem_cons.mpr ⟨lw_p49, List.forall_mem_cons.mpr ⟨lw_p50, List.forall_mem_cons.mpr ⟨lw_p51, List.forall_mem_cons.mpr ⟨lw_p52, List.forall_mem_cons.mpr ⟨lw_p53, List.forall_mem_cons.mpr ⟨lw_p54, List.forall_mem_cons.mpr ⟨lw_p55, fun _ h => absurd h List.not_mem_nil⟩⟩⟩⟩⟩⟩⟩⟩
def lw_privs : List (MethodName × Nat) := lw_privs_1 ++ (lw_privs_2 ++ (lw_privs_3 ++ (lw_privs_4)))
def lw_tbl : List Cond := k2_sels lw_privs ++ tables_1
theorem lw_privs_ok : ∀ q ∈ lw_privs, lw_okq q := by
  show ∀ q ∈ lw_privs_1 ++ (lw_privs_2 ++ (lw_privs_3 ++ (lw_privs_4))), lw_okq q
  exact List.forall_mem_append.mpr ⟨lw_r1, List.forall_mem_append.mpr ⟨lw_r2, List.forall_mem_append.mpr ⟨lw_r3, lw_r4⟩⟩⟩
end
section
/-! ===== BEGIN words of one list among another's, by their places ===== -/
theorem goodIn_r {big : List Cond} (ws : List Cond) (ps : List Nat) (hp : ws = ps.filterMap (fun i => big[i]?)) (h : ws.all goodWord = true) : GoodIn big ws := by
  intro w hw
  have h1 := List.all_eq_true.mp h w hw
  rw [hp] at hw
  obtain ⟨i, -, hi⟩ := List.mem_filterMap.mp hw
  have hm : w ∈ big := by first | exact List.mem_of_getElem? hi | exact List.getElem?_mem hi
  exact ⟨hm, good_of_word h1⟩
theorem goodIn_app {big a b : List Cond} (ha : GoodIn big a) (hb : GoodIn big b) : GoodIn big (a ++ b) := fun w h => (List.mem_append.mp h).elim (ha w) (hb w)
theorem goodIn_ca {big a b : List Cond} {c : Cond} (ha : GoodIn big (c :: a)) (hb : GoodIn big b) : GoodIn big (c :: (a ++ b)) := fun w h => (List.mem_cons.mp h).elim (fun e => ha w (List.mem_cons.mpr (Or.inl e))) (fun h => (List.mem_append.mp h).elim (fun h => ha w (List.mem_cons.mpr (Or.inr h))) (hb w))
theorem goodIn_sub {big ws : List Cond} (hm : ∀ w ∈ ws, w ∈ big) (h : ws.all goodWord = true) : GoodIn big ws := fun w hw => ⟨hm w hw, good_of_word (List.all_eq_true.mp h w hw)⟩
/-! ===== END ===== -/

/-! ===== BEGIN printed: names, fields, word lists, decode rows ===== -/
def RX0 : String := "FrontDoor$Asking"
def TX0 : u_T := fun k => match k with
  | 0 => ("FrontDoor$Asking", "server", "LFrontDoor$Server;", true)
  | 1 => ("FrontDoor$Asking", "since", "I", true)
  | 2 => ("FrontDoor$Asking", "over", "I", true)
  | _ => ("FrontDoor$Asking", "fails", "Z", true)
def tyX0 : Nat → FieldType := fun k => match k with
  | 0 => .object "FrontDoor$Server"
  | 1 => .int
  | 2 => .int
  | _ => .boolean
abbrev wsX00 : List Cond := u_ws RX0 TX0 4
theorem nmX0 : ∀ a, a < 4 → ∀ b, b < 4 → a ≠ b → (TX0 a).2.1 ≠ (TX0 b).2.1 := by decide +kernel
theorem tyX0_ok : ∀ k, k < 4 → parseFieldDescriptor (TX0 k).2.2.1 = some (tyX0 k) := by decide +kernel
abbrev cX0_init : ByteArray := prog_2_method_1_code
def yX0_init : MethodName := ⟨RX0, "<init>", "(LFrontDoor$Server;IIZ)V"⟩
def RX1 : String := "FrontDoor$Call"
def TX1 : u_T := fun k => match k with
  | 0 => ("FrontDoor$Call", "number", "I", true)
  | 1 => ("FrontDoor$Call", "key", "I", true)
  | 2 => ("FrontDoor$Call", "grade", "I", true)
  | 3 => ("FrontDoor$Call", "came", "I", true)
  | 4 => ("FrontDoor$Call", "due", "I", true)
  | 5 => ("FrontDoor$Call", "safe", "Z", true)
  | 6 => ("FrontDoor$Call", "state", "I", false)
  | 7 => ("FrontDoor$Call", "tried", "I", false)
  | 8 => ("FrontDoor$Call", "ended", "I", false)
  | 9 => ("FrontDoor$Call", "answerer", "I", false)
  | 10 => ("FrontDoor$Call", "first", "LFrontDoor$Asking;", false)
  | _ => ("FrontDoor$Call", "second", "LFrontDoor$Asking;", false)
def tyX1 : Nat → FieldType := fun k => match k with
  | 0 => .int
  | 1 => .int
  | 2 => .int
  | 3 => .int
  | 4 => .int
  | 5 => .boolean
  | 6 => .int
  | 7 => .int
  | 8 => .int
  | 9 => .int
  | 10 => .object "FrontDoor$Asking"
  | _ => .object "FrontDoor$Asking"
abbrev wsX10 : List Cond := u_ws RX1 TX1 12
theorem nmX1 : ∀ a, a < 12 → ∀ b, b < 12 → a ≠ b → (TX1 a).2.1 ≠ (TX1 b).2.1 := by decide +kernel
theorem tyX1_ok : ∀ k, k < 12 → parseFieldDescriptor (TX1 k).2.2.1 = some (tyX1 k) := by decide +kernel
abbrev cX1_init : ByteArray := prog_3_method_1_code
def yX1_init : MethodName := ⟨RX1, "<init>", "(IIIIIZ)V"⟩
abbrev cX1_hasEnded : ByteArray := prog_3_method_2_code
def yX1_hasEnded : MethodName := ⟨RX1, "hasEnded", "()Z"⟩
abbrev cX1_goesAheadOf : ByteArray := prog_3_method_3_code
def yX1_goesAheadOf : MethodName := ⟨RX1, "goesAheadOf", "(LFrontDoor$Call;)Z"⟩
abbrev cX1_begin : ByteArray := prog_3_method_4_code
def yX1_begin : MethodName := ⟨RX1, "begin", "(LFrontDoor$Asking;)V"⟩
abbrev cX1_letGo : ByteArray := prog_3_method_5_code
def yX1_letGo : MethodName := ⟨RX1, "letGo", "(LFrontDoor$Asking;)V"⟩
abbrev cX1_callOffAll : ByteArray := prog_3_method_6_code
def yX1_callOffAll : MethodName := ⟨RX1, "callOffAll", "()V"⟩
abbrev cX1_tell : ByteArray := prog_3_method_7_code
def yX1_tell : MethodName := ⟨RX1, "tell", "(I)I"⟩
def RX2 : String := "FrontDoor$Server"
def TX2 : u_T := fun k => match k with
  | 0 => ("FrontDoor$Server", "number", "I", true)
  | 1 => ("FrontDoor$Server", "zone", "I", true)
  | 2 => ("FrontDoor$Server", "weight", "I", false)
  | 3 => ("FrontDoor$Server", "room", "I", false)
  | 4 => ("FrontDoor$Server", "pace", "I", false)
  | 5 => ("FrontDoor$Server", "breaks", "I", false)
  | 6 => ("FrontDoor$Server", "mute", "I", false)
  | 7 => ("FrontDoor$Server", "health", "I", false)
  | 8 => ("FrontDoor$Server", "open", "I", false)
  | 9 => ("FrontDoor$Server", "asked", "I", false)
  | 10 => ("FrontDoor$Server", "answers", "I", false)
  | 11 => ("FrontDoor$Server", "failures", "I", false)
  | 12 => ("FrontDoor$Server", "row", "I", false)
  | 13 => ("FrontDoor$Server", "until", "I", false)
  | 14 => ("FrontDoor$Server", "penalty", "I", false)
  | 15 => ("FrontDoor$Server", "outs", "I", false)
  | _ => ("FrontDoor$Server", "credit", "I", false)
def tyX2 : Nat → FieldType := fun k => match k with
  | 0 => .int
  | 1 => .int
  | 2 => .int
  | 3 => .int
  | 4 => .int
  | 5 => .int
  | 6 => .int
  | 7 => .int
  | 8 => .int
  | 9 => .int
  | 10 => .int
  | 11 => .int
  | 12 => .int
  | 13 => .int
  | 14 => .int
  | 15 => .int
  | _ => .int
abbrev wsX20 : List Cond := u_ws RX2 TX2 17
theorem nmX2 : ∀ a, a < 17 → ∀ b, b < 17 → a ≠ b → (TX2 a).2.1 ≠ (TX2 b).2.1 := by decide +kernel
theorem tyX2_ok : ∀ k, k < 17 → parseFieldDescriptor (TX2 k).2.2.1 = some (tyX2 k) := by decide +kernel
abbrev cX2_init : ByteArray := prog_4_method_1_code
def yX2_init : MethodName := ⟨RX2, "<init>", "(IIIIII)V"⟩
abbrev cX2_mayBeAsked : ByteArray := prog_4_method_2_code
def yX2_mayBeAsked : MethodName := ⟨RX2, "mayBeAsked", "(I)Z"⟩
abbrev cX2_placeOfMark : ByteArray := prog_4_method_3_code
def yX2_placeOfMark : MethodName := ⟨RX2, "placeOfMark", "(I)I"⟩
abbrev cX2_wayFrom : ByteArray := prog_4_method_4_code
def yX2_wayFrom : MethodName := ⟨RX2, "wayFrom", "(I)I"⟩
abbrev cX2_takeAsking : ByteArray := prog_4_method_5_code
def yX2_takeAsking : MethodName := ⟨RX2, "takeAsking", "(I)LFrontDoor$Asking;"⟩
abbrev cX2_answer : ByteArray := prog_4_method_6_code
def yX2_answer : MethodName := ⟨RX2, "answer", "()V"⟩
abbrev cX2_goOut : ByteArray := prog_4_method_7_code
def yX2_goOut : MethodName := ⟨RX2, "goOut", "(I)V"⟩
abbrev cX2_change : ByteArray := prog_4_method_8_code
def yX2_change : MethodName := ⟨RX2, "change", "(II)I"⟩
abbrev cX2_tell : ByteArray := prog_4_method_9_code
def yX2_tell : MethodName := ⟨RX2, "tell", "(I)I"⟩
def RX3 : String := "FrontDoor"
def TX3 : u_T := fun k => match k with
  | 0 => ("FrontDoor", "servers", "Ljava/util/ArrayList;", true)
  | 1 => ("FrontDoor", "calls", "Ljava/util/ArrayList;", true)
  | 2 => ("FrontDoor", "live", "Ljava/util/ArrayList;", true)
  | 3 => ("FrontDoor", "line", "Ljava/util/ArrayList;", true)
  | 4 => ("FrontDoor", "refusals", "[I", true)
  | 5 => ("FrontDoor", "tick", "I", false)
  | 6 => ("FrontDoor", "ruleNow", "I", false)
  | 7 => ("FrontDoor", "limitNow", "I", false)
  | 8 => ("FrontDoor", "budgetNow", "I", false)
  | 9 => ("FrontDoor", "hedgeNow", "I", false)
  | 10 => ("FrontDoor", "agains", "I", false)
  | 11 => ("FrontDoor", "seconds", "I", false)
  | _ => ("FrontDoor", "endedSoFar", "I", false)
def tyX3 : Nat → FieldType := fun k => match k with
  | 0 => .object "java/util/ArrayList"
  | 1 => .object "java/util/ArrayList"
  | 2 => .object "java/util/ArrayList"
  | 3 => .object "java/util/ArrayList"
  | 4 => .array .int
  | 5 => .int
  | 6 => .int
  | 7 => .int
  | 8 => .int
  | 9 => .int
  | 10 => .int
  | 11 => .int
  | _ => .int
abbrev wsX30 : List Cond := u_ws RX3 TX3 13
theorem nmX3 : ∀ a, a < 13 → ∀ b, b < 13 → a ≠ b → (TX3 a).2.1 ≠ (TX3 b).2.1 := by decide +kernel
theorem tyX3_ok : ∀ k, k < 13 → parseFieldDescriptor (TX3 k).2.2.1 = some (tyX3 k) := by decide +kernel
abbrev cX3_init : ByteArray := prog_1_method_1_code
def yX3_init : MethodName := ⟨RX3, "<init>", "()V"⟩
abbrev cX3_server : ByteArray := prog_1_method_2_code
def yX3_server : MethodName := ⟨RX3, "server", "(IIIII)I"⟩
abbrev cX3_set : ByteArray := prog_1_method_3_code
def yX3_set : MethodName := ⟨RX3, "set", "(III)I"⟩
abbrev cX3_drain : ByteArray := prog_1_method_4_code
def yX3_drain : MethodName := ⟨RX3, "drain", "(I)I"⟩
abbrev cX3_back : ByteArray := prog_1_method_5_code
def yX3_back : MethodName := ⟨RX3, "back", "(I)I"⟩
abbrev cX3_rule : ByteArray := prog_1_method_6_code
def yX3_rule : MethodName := ⟨RX3, "rule", "(I)I"⟩
abbrev cX3_limit : ByteArray := prog_1_method_7_code
def yX3_limit : MethodName := ⟨RX3, "limit", "(I)I"⟩
abbrev cX3_budget : ByteArray := prog_1_method_8_code
def yX3_budget : MethodName := ⟨RX3, "budget", "(I)I"⟩
abbrev cX3_hedge : ByteArray := prog_1_method_9_code
def yX3_hedge : MethodName := ⟨RX3, "hedge", "(I)I"⟩
abbrev cX3_call : ByteArray := prog_1_method_10_code
def yX3_call : MethodName := ⟨RX3, "call", "(IIIZ)I"⟩
abbrev cX3_off : ByteArray := prog_1_method_11_code
def yX3_off : MethodName := ⟨RX3, "off", "(I)I"⟩
abbrev cX3_ticks : ByteArray := prog_1_method_12_code
def yX3_ticks : MethodName := ⟨RX3, "ticks", "(I)I"⟩
abbrev cX3_pick : ByteArray := prog_1_method_13_code
def yX3_pick : MethodName := ⟨RX3, "pick", "(I)I"⟩
abbrev cX3_callOf : ByteArray := prog_1_method_14_code
def yX3_callOf : MethodName := ⟨RX3, "callOf", "(II)I"⟩
abbrev cX3_serverOf : ByteArray := prog_1_method_15_code
def yX3_serverOf : MethodName := ⟨RX3, "serverOf", "(II)I"⟩
abbrev cX3_mark : ByteArray := prog_1_method_16_code
def yX3_mark : MethodName := ⟨RX3, "mark", "(II)I"⟩
abbrev cX3_queue : ByteArray := prog_1_method_17_code
def yX3_queue : MethodName := ⟨RX3, "queue", "(I)I"⟩
abbrev cX3_share : ByteArray := prog_1_method_18_code
def yX3_share : MethodName := ⟨RX3, "share", "(I)I"⟩
abbrev cX3_count : ByteArray := prog_1_method_19_code
def yX3_count : MethodName := ⟨RX3, "count", "(I)I"⟩
abbrev cX3_serverAt : ByteArray := prog_1_method_20_code
def yX3_serverAt : MethodName := ⟨RX3, "serverAt", "(I)LFrontDoor$Server;"⟩
abbrev cX3_callAt : ByteArray := prog_1_method_21_code
def yX3_callAt : MethodName := ⟨RX3, "callAt", "(I)LFrontDoor$Call;"⟩
abbrev cX3_refuse : ByteArray := prog_1_method_22_code
def yX3_refuse : MethodName := ⟨RX3, "refuse", "(I)I"⟩
abbrev cX3_faultOf : ByteArray := prog_1_method_23_code
def yX3_faultOf : MethodName := ⟨RX3, "faultOf", "(III)I"⟩
abbrev cX3_leastOf : ByteArray := prog_1_method_24_code
def yX3_leastOf : MethodName := ⟨RX3, "leastOf", "(I)I"⟩
abbrev cX3_greatestOf : ByteArray := prog_1_method_25_code
def yX3_greatestOf : MethodName := ⟨RX3, "greatestOf", "(I)I"⟩
abbrev cX3_callsThatAre : ByteArray := prog_1_method_26_code
def yX3_callsThatAre : MethodName := ⟨RX3, "callsThatAre", "(I)I"⟩
abbrev cX3_askingsSoFar : ByteArray := prog_1_method_27_code
def yX3_askingsSoFar : MethodName := ⟨RX3, "askingsSoFar", "()I"⟩
abbrev cX3_openAskings : ByteArray := prog_1_method_28_code
def yX3_openAskings : MethodName := ⟨RX3, "openAskings", "()I"⟩
abbrev cX3_chosen : ByteArray := prog_1_method_29_code
def yX3_chosen : MethodName := ⟨RX3, "chosen", "(II)LFrontDoor$Server;"⟩
abbrev cX3_byTurn : ByteArray := prog_1_method_30_code
def yX3_byTurn : MethodName := ⟨RX3, "byTurn", "(I)LFrontDoor$Server;"⟩
abbrev cX3_byFewest : ByteArray := prog_1_method_31_code
def yX3_byFewest : MethodName := ⟨RX3, "byFewest", "(II)LFrontDoor$Server;"⟩
abbrev cX3_byRing : ByteArray := prog_1_method_32_code
def yX3_byRing : MethodName := ⟨RX3, "byRing", "(II)LFrontDoor$Server;"⟩
abbrev cX3_settleCredits : ByteArray := prog_1_method_33_code
def yX3_settleCredits : MethodName := ⟨RX3, "settleCredits", "(ILFrontDoor$Server;)V"⟩
abbrev cX3_askByRule : ByteArray := prog_1_method_34_code
def yX3_askByRule : MethodName := ⟨RX3, "askByRule", "(LFrontDoor$Call;)Z"⟩
abbrev cX3_joinLine : ByteArray := prog_1_method_35_code
def yX3_joinLine : MethodName := ⟨RX3, "joinLine", "(LFrontDoor$Call;)V"⟩
abbrev cX3_leaveLine : ByteArray := prog_1_method_36_code
def yX3_leaveLine : MethodName := ⟨RX3, "leaveLine", "(LFrontDoor$Call;)V"⟩
abbrev cX3_end : ByteArray := prog_1_method_37_code
def yX3_end : MethodName := ⟨RX3, "end", "(LFrontDoor$Call;I)V"⟩
abbrev cX3_dropEnded : ByteArray := prog_1_method_38_code
def yX3_dropEnded : MethodName := ⟨RX3, "dropEnded", "()V"⟩
abbrev cX3_passTick : ByteArray := prog_1_method_39_code
def yX3_passTick : MethodName := ⟨RX3, "passTick", "()V"⟩
abbrev cX3_takeWhatIsOver : ByteArray := prog_1_method_40_code
def yX3_takeWhatIsOver : MethodName := ⟨RX3, "takeWhatIsOver", "()V"⟩
abbrev cX3_takeAnswer : ByteArray := prog_1_method_41_code
def yX3_takeAnswer : MethodName := ⟨RX3, "takeAnswer", "(LFrontDoor$Call;LFrontDoor$Asking;)V"⟩
abbrev cX3_budgetHolds : ByteArray := prog_1_method_42_code
def yX3_budgetHolds : MethodName := ⟨RX3, "budgetHolds", "()Z"⟩
abbrev cX3_failureOf : ByteArray := prog_1_method_43_code
def yX3_failureOf : MethodName := ⟨RX3, "failureOf", "(LFrontDoor$Server;)V"⟩
abbrev cX3_oneMoreOutIsTooMany : ByteArray := prog_1_method_44_code
def yX3_oneMoreOutIsTooMany : MethodName := ⟨RX3, "oneMoreOutIsTooMany", "()Z"⟩
abbrev cX3_meetDues : ByteArray := prog_1_method_45_code
def yX3_meetDues : MethodName := ⟨RX3, "meetDues", "()V"⟩
abbrev cX3_failByDue : ByteArray := prog_1_method_46_code
def yX3_failByDue : MethodName := ⟨RX3, "failByDue", "(LFrontDoor$Call;)V"⟩
abbrev cX3_tryThoseOut : ByteArray := prog_1_method_47_code
def yX3_tryThoseOut : MethodName := ⟨RX3, "tryThoseOut", "()V"⟩
abbrev cX3_hedgeSlow : ByteArray := prog_1_method_48_code
def yX3_hedgeSlow : MethodName := ⟨RX3, "hedgeSlow", "()V"⟩
abbrev cX3_askQueued : ByteArray := prog_1_method_49_code
def yX3_askQueued : MethodName := ⟨RX3, "askQueued", "()V"⟩
abbrev cX3_letDrainedGo : ByteArray := prog_1_method_50_code
def yX3_letDrainedGo : MethodName := ⟨RX3, "letDrainedGo", "()V"⟩
def RX4 : String := "FrontDoorModel"
def TX4 : u_T := fun k => match k with
  | 0 => ("FrontDoorModel", "refusals", "[I", true)
  | 1 => ("FrontDoorModel", "tick", "I", false)
  | 2 => ("FrontDoorModel", "servers", "I", false)
  | 3 => ("FrontDoorModel", "calls", "I", false)
  | 4 => ("FrontDoorModel", "rule", "I", false)
  | 5 => ("FrontDoorModel", "limit", "I", false)
  | 6 => ("FrontDoorModel", "budget", "I", false)
  | 7 => ("FrontDoorModel", "hedge", "I", false)
  | 8 => ("FrontDoorModel", "askings", "I", false)
  | 9 => ("FrontDoorModel", "agains", "I", false)
  | 10 => ("FrontDoorModel", "seconds", "I", false)
  | 11 => ("FrontDoorModel", "weight", "[I", true)
  | 12 => ("FrontDoorModel", "zone", "[I", true)
  | 13 => ("FrontDoorModel", "room", "[I", true)
  | 14 => ("FrontDoorModel", "pace", "[I", true)
  | 15 => ("FrontDoorModel", "breaks", "[I", true)
  | 16 => ("FrontDoorModel", "mute", "[I", true)
  | 17 => ("FrontDoorModel", "health", "[I", true)
  | 18 => ("FrontDoorModel", "open", "[I", true)
  | 19 => ("FrontDoorModel", "asked", "[I", true)
  | 20 => ("FrontDoorModel", "answers", "[I", true)
  | 21 => ("FrontDoorModel", "failures", "[I", true)
  | 22 => ("FrontDoorModel", "row", "[I", true)
  | 23 => ("FrontDoorModel", "until", "[I", true)
  | 24 => ("FrontDoorModel", "penalty", "[I", true)
  | 25 => ("FrontDoorModel", "outs", "[I", true)
  | 26 => ("FrontDoorModel", "credit", "[I", true)
  | 27 => ("FrontDoorModel", "key", "[I", true)
  | 28 => ("FrontDoorModel", "grade", "[I", true)
  | 29 => ("FrontDoorModel", "due", "[I", true)
  | 30 => ("FrontDoorModel", "state", "[I", true)
  | 31 => ("FrontDoorModel", "asks", "[I", true)
  | 32 => ("FrontDoorModel", "tried", "[I", true)
  | 33 => ("FrontDoorModel", "came", "[I", true)
  | 34 => ("FrontDoorModel", "ended", "[I", true)
  | 35 => ("FrontDoorModel", "by", "[I", true)
  | 36 => ("FrontDoorModel", "safe", "[Z", true)
  | 37 => ("FrontDoorModel", "at", "[I", true)
  | 38 => ("FrontDoorModel", "since", "[I", true)
  | 39 => ("FrontDoorModel", "over", "[I", true)
  | 40 => ("FrontDoorModel", "fails", "[Z", true)
  | 41 => ("FrontDoorModel", "queue", "[I", true)
  | _ => ("FrontDoorModel", "queued", "I", false)
def tyX4 : Nat → FieldType := fun k => match k with
  | 0 => .array .int
  | 1 => .int
  | 2 => .int
  | 3 => .int
  | 4 => .int
  | 5 => .int
  | 6 => .int
  | 7 => .int
  | 8 => .int
  | 9 => .int
  | 10 => .int
  | 11 => .array .int
  | 12 => .array .int
  | 13 => .array .int
  | 14 => .array .int
  | 15 => .array .int
  | 16 => .array .int
  | 17 => .array .int
  | 18 => .array .int
  | 19 => .array .int
  | 20 => .array .int
  | 21 => .array .int
  | 22 => .array .int
  | 23 => .array .int
  | 24 => .array .int
  | 25 => .array .int
  | 26 => .array .int
  | 27 => .array .int
  | 28 => .array .int
  | 29 => .array .int
  | 30 => .array .int
  | 31 => .array .int
  | 32 => .array .int
  | 33 => .array .int
  | 34 => .array .int
  | 35 => .array .int
  | 36 => .array .boolean
  | 37 => .array .int
  | 38 => .array .int
  | 39 => .array .int
  | 40 => .array .boolean
  | 41 => .array .int
  | _ => .int
abbrev wsX40 : List Cond := u_ws RX4 TX4 43
theorem nmX4 : ∀ a, a < 43 → ∀ b, b < 43 → a ≠ b → (TX4 a).2.1 ≠ (TX4 b).2.1 := by decide +kernel
theorem tyX4_ok : ∀ k, k < 43 → parseFieldDescriptor (TX4 k).2.2.1 = some (tyX4 k) := by decide +kernel
abbrev cX4_init : ByteArray := prog_6_method_1_code
def yX4_init : MethodName := ⟨RX4, "<init>", "()V"⟩
abbrev cX4_refuse : ByteArray := prog_6_method_2_code
def yX4_refuse : MethodName := ⟨RX4, "refuse", "(I)I"⟩
abbrev cX4_isIn : ByteArray := prog_6_method_3_code
def yX4_isIn : MethodName := ⟨RX4, "isIn", "(II)Z"⟩
abbrev cX4_isServer : ByteArray := prog_6_method_4_code
def yX4_isServer : MethodName := ⟨RX4, "isServer", "(I)Z"⟩
abbrev cX4_isCall : ByteArray := prog_6_method_5_code
def yX4_isCall : MethodName := ⟨RX4, "isCall", "(I)Z"⟩
abbrev cX4_server : ByteArray := prog_6_method_6_code
def yX4_server : MethodName := ⟨RX4, "server", "(IIIII)I"⟩
abbrev cX4_set : ByteArray := prog_6_method_7_code
def yX4_set : MethodName := ⟨RX4, "set", "(III)I"⟩
abbrev cX4_drain : ByteArray := prog_6_method_8_code
def yX4_drain : MethodName := ⟨RX4, "drain", "(I)I"⟩
abbrev cX4_back : ByteArray := prog_6_method_9_code
def yX4_back : MethodName := ⟨RX4, "back", "(I)I"⟩
abbrev cX4_rule : ByteArray := prog_6_method_10_code
def yX4_rule : MethodName := ⟨RX4, "rule", "(I)I"⟩
abbrev cX4_limit : ByteArray := prog_6_method_11_code
def yX4_limit : MethodName := ⟨RX4, "limit", "(I)I"⟩
abbrev cX4_budget : ByteArray := prog_6_method_12_code
def yX4_budget : MethodName := ⟨RX4, "budget", "(I)I"⟩
abbrev cX4_hedge : ByteArray := prog_6_method_13_code
def yX4_hedge : MethodName := ⟨RX4, "hedge", "(I)I"⟩
abbrev cX4_mays : ByteArray := prog_6_method_14_code
def yX4_mays : MethodName := ⟨RX4, "mays", "(I)I"⟩
abbrev cX4_fewest : ByteArray := prog_6_method_15_code
def yX4_fewest : MethodName := ⟨RX4, "fewest", "(I)I"⟩
abbrev cX4_markOf : ByteArray := prog_6_method_16_code
def yX4_markOf : MethodName := ⟨RX4, "markOf", "(II)I"⟩
abbrev cX4_onRing : ByteArray := prog_6_method_17_code
def yX4_onRing : MethodName := ⟨RX4, "onRing", "(II)I"⟩
abbrev cX4_near : ByteArray := prog_6_method_18_code
def yX4_near : MethodName := ⟨RX4, "near", "(II)I"⟩
abbrev cX4_byTurns : ByteArray := prog_6_method_19_code
def yX4_byTurns : MethodName := ⟨RX4, "byTurns", "(IZ)I"⟩
abbrev cX4_picked : ByteArray := prog_6_method_20_code
def yX4_picked : MethodName := ⟨RX4, "picked", "(IIZ)I"⟩
abbrev cX4_ask : ByteArray := prog_6_method_21_code
def yX4_ask : MethodName := ⟨RX4, "ask", "(II)V"⟩
abbrev cX4_asksFor : ByteArray := prog_6_method_22_code
def yX4_asksFor : MethodName := ⟨RX4, "asksFor", "(I)Z"⟩
abbrev cX4_call : ByteArray := prog_6_method_23_code
def yX4_call : MethodName := ⟨RX4, "call", "(IIIZ)I"⟩
abbrev cX4_outsNow : ByteArray := prog_6_method_24_code
def yX4_outsNow : MethodName := ⟨RX4, "outsNow", "(Z)I"⟩
abbrev cX4_failure : ByteArray := prog_6_method_25_code
def yX4_failure : MethodName := ⟨RX4, "failure", "(I)V"⟩
abbrev cX4_answer : ByteArray := prog_6_method_26_code
def yX4_answer : MethodName := ⟨RX4, "answer", "(I)V"⟩
abbrev cX4_takes : ByteArray := prog_6_method_27_code
def yX4_takes : MethodName := ⟨RX4, "takes", "(II)V"⟩
abbrev cX4_ends : ByteArray := prog_6_method_28_code
def yX4_ends : MethodName := ⟨RX4, "ends", "(II)V"⟩
abbrev cX4_off : ByteArray := prog_6_method_29_code
def yX4_off : MethodName := ⟨RX4, "off", "(I)I"⟩
abbrev cX4_comesBack : ByteArray := prog_6_method_30_code
def yX4_comesBack : MethodName := ⟨RX4, "comesBack", "(I)Z"⟩
abbrev cX4_isDue : ByteArray := prog_6_method_31_code
def yX4_isDue : MethodName := ⟨RX4, "isDue", "(I)Z"⟩
abbrev cX4_hedges : ByteArray := prog_6_method_32_code
def yX4_hedges : MethodName := ⟨RX4, "hedges", "(I)V"⟩
abbrev cX4_isAhead : ByteArray := prog_6_method_33_code
def yX4_isAhead : MethodName := ⟨RX4, "isAhead", "(II)Z"⟩
abbrev cX4_line : ByteArray := prog_6_method_34_code
def yX4_line : MethodName := ⟨RX4, "line", "()V"⟩
abbrev cX4_goesOn : ByteArray := prog_6_method_35_code
def yX4_goesOn : MethodName := ⟨RX4, "goesOn", "()I"⟩
abbrev cX4_ticks : ByteArray := prog_6_method_36_code
def yX4_ticks : MethodName := ⟨RX4, "ticks", "(I)I"⟩
abbrev cX4_pick : ByteArray := prog_6_method_37_code
def yX4_pick : MethodName := ⟨RX4, "pick", "(I)I"⟩
abbrev cX4_callOf : ByteArray := prog_6_method_38_code
def yX4_callOf : MethodName := ⟨RX4, "callOf", "(II)I"⟩
abbrev cX4_serverOf : ByteArray := prog_6_method_39_code
def yX4_serverOf : MethodName := ⟨RX4, "serverOf", "(II)I"⟩
abbrev cX4_mark : ByteArray := prog_6_method_40_code
def yX4_mark : MethodName := ⟨RX4, "mark", "(II)I"⟩
abbrev cX4_queue : ByteArray := prog_6_method_41_code
def yX4_queue : MethodName := ⟨RX4, "queue", "(I)I"⟩
abbrev cX4_share : ByteArray := prog_6_method_42_code
def yX4_share : MethodName := ⟨RX4, "share", "(I)I"⟩
abbrev cX4_inState : ByteArray := prog_6_method_43_code
def yX4_inState : MethodName := ⟨RX4, "inState", "(I)I"⟩
abbrev cX4_count : ByteArray := prog_6_method_44_code
def yX4_count : MethodName := ⟨RX4, "count", "(I)I"⟩
def RJx145de : String := "java/io/Serializable"
def TJx145de : u_T := fun k => match k with
  | _ => ("", "", "", false)
def tyJx145de : Nat → FieldType := fun k => match k with
  | _ => .int
abbrev wsJx145de0 : List Cond := u_ws RJx145de TJx145de 0
theorem nmJx145de : ∀ a, a < 0 → ∀ b, b < 0 → a ≠ b → (TJx145de a).2.1 ≠ (TJx145de b).2.1 := by decide +kernel
theorem tyJx145de_ok : ∀ k, k < 0 → parseFieldDescriptor (TJx145de k).2.2.1 = some (tyJx145de k) := by decide +kernel
def RJx8e188 : String := "java/lang/Cloneable"
def TJx8e188 : u_T := fun k => match k with
  | _ => ("", "", "", false)
def tyJx8e188 : Nat → FieldType := fun k => match k with
  | _ => .int
abbrev wsJx8e1880 : List Cond := u_ws RJx8e188 TJx8e188 0
theorem nmJx8e188 : ∀ a, a < 0 → ∀ b, b < 0 → a ≠ b → (TJx8e188 a).2.1 ≠ (TJx8e188 b).2.1 := by decide +kernel
theorem tyJx8e188_ok : ∀ k, k < 0 → parseFieldDescriptor (TJx8e188 k).2.2.1 = some (tyJx8e188 k) := by decide +kernel
def RJxab1ab : String := "java/lang/Iterable"
def TJxab1ab : u_T := fun k => match k with
  | _ => ("", "", "", false)
def tyJxab1ab : Nat → FieldType := fun k => match k with
  | _ => .int
abbrev wsJxab1ab0 : List Cond := u_ws RJxab1ab TJxab1ab 0
theorem nmJxab1ab : ∀ a, a < 0 → ∀ b, b < 0 → a ≠ b → (TJxab1ab a).2.1 ≠ (TJxab1ab b).2.1 := by decide +kernel
theorem tyJxab1ab_ok : ∀ k, k < 0 → parseFieldDescriptor (TJxab1ab k).2.2.1 = some (tyJxab1ab k) := by decide +kernel
def RJ9 : String := "java/lang/Math"
def TJ9 : u_T := fun k => match k with
  | _ => ("", "", "", false)
def tyJ9 : Nat → FieldType := fun k => match k with
  | _ => .int
abbrev wsJ90 : List Cond := u_ws RJ9 TJ9 0
theorem nmJ9 : ∀ a, a < 0 → ∀ b, b < 0 → a ≠ b → (TJ9 a).2.1 ≠ (TJ9 b).2.1 := by decide +kernel
theorem tyJ9_ok : ∀ k, k < 0 → parseFieldDescriptor (TJ9 k).2.2.1 = some (tyJ9 k) := by decide +kernel
abbrev cJ9_max_7cf53 : ByteArray := prog_10_method_65_code
def yJ9_max_7cf53 : MethodName := ⟨RJ9, "max", "(II)I"⟩
abbrev cJ9_min_7cf53 : ByteArray := prog_10_method_69_code
def yJ9_min_7cf53 : MethodName := ⟨RJ9, "min", "(II)I"⟩
def RJ10 : String := "java/lang/System"
def TJ10 : u_T := fun k => match k with
  | _ => ("", "", "", false)
def tyJ10 : Nat → FieldType := fun k => match k with
  | _ => .int
abbrev wsJ100 : List Cond := u_ws RJ10 TJ10 0
theorem nmJ10 : ∀ a, a < 0 → ∀ b, b < 0 → a ≠ b → (TJ10 a).2.1 ≠ (TJ10 b).2.1 := by decide +kernel
theorem tyJ10_ok : ∀ k, k < 0 → parseFieldDescriptor (TJ10 k).2.2.1 = some (tyJ10 k) := by decide +kernel
def RJxa1e45 : String := "java/util/AbstractCollection"
def TJxa1e45 : u_T := fun k => match k with
  | _ => ("", "", "", false)
def tyJxa1e45 : Nat → FieldType := fun k => match k with
  | _ => .int
abbrev wsJxa1e450 : List Cond := u_ws RJxa1e45 TJxa1e45 0
theorem nmJxa1e45 : ∀ a, a < 0 → ∀ b, b < 0 → a ≠ b → (TJxa1e45 a).2.1 ≠ (TJxa1e45 b).2.1 := by decide +kernel
theorem tyJxa1e45_ok : ∀ k, k < 0 → parseFieldDescriptor (TJxa1e45 k).2.2.1 = some (tyJxa1e45 k) := by decide +kernel
abbrev cJxa1e45_init_da8c8 : ByteArray := prog_12_method_1_code
def yJxa1e45_init_da8c8 : MethodName := ⟨RJxa1e45, "<init>", "()V"⟩
def RJxc12de : String := "java/util/AbstractList"
def TJxc12de : u_T := fun k => match k with
  | _ => ("", "", "", false)
def tyJxc12de : Nat → FieldType := fun k => match k with
  | _ => .int
abbrev wsJxc12de0 : List Cond := u_ws RJxc12de TJxc12de 0
theorem nmJxc12de : ∀ a, a < 0 → ∀ b, b < 0 → a ≠ b → (TJxc12de a).2.1 ≠ (TJxc12de b).2.1 := by decide +kernel
theorem tyJxc12de_ok : ∀ k, k < 0 → parseFieldDescriptor (TJxc12de k).2.2.1 = some (tyJxc12de k) := by decide +kernel
abbrev cJxc12de_init_da8c8 : ByteArray := prog_13_method_1_code
def yJxc12de_init_da8c8 : MethodName := ⟨RJxc12de, "<init>", "()V"⟩
def RJx4a65c : String := "java/util/ArrayList"
def TJx4a65c : u_T := fun k => match k with
  | 0 => ("java/util/AbstractList", "modCount", "I", false)
  | 1 => ("java/util/ArrayList", "elementData", "[Ljava/lang/Object;", false)
  | _ => ("java/util/ArrayList", "size", "I", false)
def tyJx4a65c : Nat → FieldType := fun k => match k with
  | 0 => .int
  | 1 => .array (.object "java/lang/Object")
  | _ => .int
abbrev wsJx4a65c0 : List Cond := u_ws RJx4a65c TJx4a65c 3
theorem nmJx4a65c : ∀ a, a < 3 → ∀ b, b < 3 → a ≠ b → (TJx4a65c a).2.1 ≠ (TJx4a65c b).2.1 := by decide +kernel
theorem tyJx4a65c_ok : ∀ k, k < 3 → parseFieldDescriptor (TJx4a65c k).2.2.1 = some (tyJx4a65c k) := by decide +kernel
abbrev cJx4a65c_init_da8c8 : ByteArray := prog_14_method_2_code
def yJx4a65c_init_da8c8 : MethodName := ⟨RJx4a65c, "<init>", "()V"⟩
abbrev cJx4a65c_grow_92f84 : ByteArray := prog_14_method_6_code
def yJx4a65c_grow_92f84 : MethodName := ⟨RJx4a65c, "grow", "(I)[Ljava/lang/Object;"⟩
abbrev cJx4a65c_grow_d5877 : ByteArray := prog_14_method_7_code
def yJx4a65c_grow_d5877 : MethodName := ⟨RJx4a65c, "grow", "()[Ljava/lang/Object;"⟩
abbrev cJx4a65c_size_8abf5 : ByteArray := prog_14_method_8_code
def yJx4a65c_size_8abf5 : MethodName := ⟨RJx4a65c, "size", "()I"⟩
abbrev cJx4a65c_elementData_915e3 : ByteArray := prog_14_method_18_code
def yJx4a65c_elementData_915e3 : MethodName := ⟨RJx4a65c, "elementData", "(I)Ljava/lang/Object;"⟩
abbrev cJx4a65c_get_915e3 : ByteArray := prog_14_method_20_code
def yJx4a65c_get_915e3 : MethodName := ⟨RJx4a65c, "get", "(I)Ljava/lang/Object;"⟩
abbrev cJx4a65c_add_72be8 : ByteArray := prog_14_method_24_code
def yJx4a65c_add_72be8 : MethodName := ⟨RJx4a65c, "add", "(Ljava/lang/Object;[Ljava/lang/Object;I)V"⟩
abbrev cJx4a65c_add_9ea2d : ByteArray := prog_14_method_25_code
def yJx4a65c_add_9ea2d : MethodName := ⟨RJx4a65c, "add", "(Ljava/lang/Object;)Z"⟩
abbrev cJx4a65c_add_7a177 : ByteArray := prog_14_method_26_code
def yJx4a65c_add_7a177 : MethodName := ⟨RJx4a65c, "add", "(ILjava/lang/Object;)V"⟩
abbrev cJx4a65c_remove_915e3 : ByteArray := prog_14_method_29_code
def yJx4a65c_remove_915e3 : MethodName := ⟨RJx4a65c, "remove", "(I)Ljava/lang/Object;"⟩
abbrev cJx4a65c_fastRemove_b59b0 : ByteArray := prog_14_method_39_code
def yJx4a65c_fastRemove_b59b0 : MethodName := ⟨RJx4a65c, "fastRemove", "([Ljava/lang/Object;I)V"⟩
abbrev cJx4a65c_rangeCheckForAdd_d00df : ByteArray := prog_14_method_45_code
def yJx4a65c_rangeCheckForAdd_d00df : MethodName := ⟨RJx4a65c, "rangeCheckForAdd", "(I)V"⟩
def RJ7 : String := "java/util/Arrays"
def TJ7 : u_T := fun k => match k with
  | _ => ("", "", "", false)
def tyJ7 : Nat → FieldType := fun k => match k with
  | _ => .int
abbrev wsJ70 : List Cond := u_ws RJ7 TJ7 0
theorem nmJ7 : ∀ a, a < 0 → ∀ b, b < 0 → a ≠ b → (TJ7 a).2.1 ≠ (TJ7 b).2.1 := by decide +kernel
theorem tyJ7_ok : ∀ k, k < 0 → parseFieldDescriptor (TJ7 k).2.2.1 = some (tyJ7 k) := by decide +kernel
abbrev cJ7_copyOf_1904c : ByteArray := prog_15_method_119_code
def yJ7_copyOf_1904c : MethodName := ⟨RJ7, "copyOf", "([Ljava/lang/Object;I)[Ljava/lang/Object;"⟩
abbrev cJ7_copyOf_6403c : ByteArray := prog_15_method_120_code
def yJ7_copyOf_6403c : MethodName := ⟨RJ7, "copyOf", "([Ljava/lang/Object;ILjava/lang/Class;)[Ljava/lang/Object;"⟩
def RJx5ef63 : String := "java/util/Collection"
def TJx5ef63 : u_T := fun k => match k with
  | _ => ("", "", "", false)
def tyJx5ef63 : Nat → FieldType := fun k => match k with
  | _ => .int
abbrev wsJx5ef630 : List Cond := u_ws RJx5ef63 TJx5ef63 0
theorem nmJx5ef63 : ∀ a, a < 0 → ∀ b, b < 0 → a ≠ b → (TJx5ef63 a).2.1 ≠ (TJx5ef63 b).2.1 := by decide +kernel
theorem tyJx5ef63_ok : ∀ k, k < 0 → parseFieldDescriptor (TJx5ef63 k).2.2.1 = some (tyJx5ef63 k) := by decide +kernel
def RJxbd725 : String := "java/util/List"
def TJxbd725 : u_T := fun k => match k with
  | _ => ("", "", "", false)
def tyJxbd725 : Nat → FieldType := fun k => match k with
  | _ => .int
abbrev wsJxbd7250 : List Cond := u_ws RJxbd725 TJxbd725 0
theorem nmJxbd725 : ∀ a, a < 0 → ∀ b, b < 0 → a ≠ b → (TJxbd725 a).2.1 ≠ (TJxbd725 b).2.1 := by decide +kernel
theorem tyJxbd725_ok : ∀ k, k < 0 → parseFieldDescriptor (TJxbd725 k).2.2.1 = some (tyJxbd725 k) := by decide +kernel
def RJ15 : String := "java/util/Objects"
def TJ15 : u_T := fun k => match k with
  | _ => ("", "", "", false)
def tyJ15 : Nat → FieldType := fun k => match k with
  | _ => .int
abbrev wsJ150 : List Cond := u_ws RJ15 TJ15 0
theorem nmJ15 : ∀ a, a < 0 → ∀ b, b < 0 → a ≠ b → (TJ15 a).2.1 ≠ (TJ15 b).2.1 := by decide +kernel
theorem tyJ15_ok : ∀ k, k < 0 → parseFieldDescriptor (TJ15 k).2.2.1 = some (tyJ15 k) := by decide +kernel
abbrev cJ15_checkIndex_7cf53 : ByteArray := prog_18_method_17_code
def yJ15_checkIndex_7cf53 : MethodName := ⟨RJ15, "checkIndex", "(II)I"⟩
def RJxf0a74 : String := "java/util/RandomAccess"
def TJxf0a74 : u_T := fun k => match k with
  | _ => ("", "", "", false)
def tyJxf0a74 : Nat → FieldType := fun k => match k with
  | _ => .int
abbrev wsJxf0a740 : List Cond := u_ws RJxf0a74 TJxf0a74 0
theorem nmJxf0a74 : ∀ a, a < 0 → ∀ b, b < 0 → a ≠ b → (TJxf0a74 a).2.1 ≠ (TJxf0a74 b).2.1 := by decide +kernel
theorem tyJxf0a74_ok : ∀ k, k < 0 → parseFieldDescriptor (TJxf0a74 k).2.2.1 = some (tyJxf0a74 k) := by decide +kernel
def RJxa66e6 : String := "java/util/SequencedCollection"
def TJxa66e6 : u_T := fun k => match k with
  | _ => ("", "", "", false)
def tyJxa66e6 : Nat → FieldType := fun k => match k with
  | _ => .int
abbrev wsJxa66e60 : List Cond := u_ws RJxa66e6 TJxa66e6 0
theorem nmJxa66e6 : ∀ a, a < 0 → ∀ b, b < 0 → a ≠ b → (TJxa66e6 a).2.1 ≠ (TJxa66e6 b).2.1 := by decide +kernel
theorem tyJxa66e6_ok : ∀ k, k < 0 → parseFieldDescriptor (TJxa66e6 k).2.2.1 = some (tyJxa66e6 k) := by decide +kernel
def RJ8 : String := "jdk/internal/util/ArraysSupport"
def TJ8 : u_T := fun k => match k with
  | _ => ("", "", "", false)
def tyJ8 : Nat → FieldType := fun k => match k with
  | _ => .int
abbrev wsJ80 : List Cond := u_ws RJ8 TJ8 0
theorem nmJ8 : ∀ a, a < 0 → ∀ b, b < 0 → a ≠ b → (TJ8 a).2.1 ≠ (TJ8 b).2.1 := by decide +kernel
theorem tyJ8_ok : ∀ k, k < 0 → parseFieldDescriptor (TJ8 k).2.2.1 = some (tyJ8 k) := by decide +kernel
abbrev cJ8_newLength_cabcc : ByteArray := prog_21_method_27_code
def yJ8_newLength_cabcc : MethodName := ⟨RJ8, "newLength", "(III)I"⟩
abbrev cJ8_hugeLength_7cf53 : ByteArray := prog_21_method_28_code
def yJ8_hugeLength_7cf53 : MethodName := ⟨RJ8, "hugeLength", "(II)I"⟩
def RJ3 : String := "jdk/internal/util/Preconditions"
def TJ3 : u_T := fun k => match k with
  | _ => ("", "", "", false)
def tyJ3 : Nat → FieldType := fun k => match k with
  | _ => .int
abbrev wsJ30 : List Cond := u_ws RJ3 TJ3 0
theorem nmJ3 : ∀ a, a < 0 → ∀ b, b < 0 → a ≠ b → (TJ3 a).2.1 ≠ (TJ3 b).2.1 := by decide +kernel
theorem tyJ3_ok : ∀ k, k < 0 → parseFieldDescriptor (TJ3 k).2.2.1 = some (tyJ3 k) := by decide +kernel
abbrev cJ3_checkIndex_8e157 : ByteArray := prog_22_method_11_code
def yJ3_checkIndex_8e157 : MethodName := ⟨RJ3, "checkIndex", "(IILjava/util/function/BiFunction;)I"⟩
def RL : String := "FrontDoorLaw"
abbrev cL_law : ByteArray := code
def yL_law : MethodName := ⟨RL, "law", "([I)Z"⟩
def wsX0_init : List Cond := .code yX0_init cX0_init 5 none :: ([.methodLink RX0 1 objectInit, .instanceMethod objectInit, .code objectInit ⟨#[0xb1]⟩ 1 none, .fieldLink RX0 7 "FrontDoor$Asking" "server" "LFrontDoor$Server;", .fieldLink RX0 13 "FrontDoor$Asking" "since" "I", .fieldLink RX0 17 "FrontDoor$Asking" "over" "I", .fieldLink RX0 20 "FrontDoor$Asking" "fails" "Z"] ++ wsX00)
def wsX1_init : List Cond := .code yX1_init cX1_init 7 none :: ([.methodLink RX1 3 objectInit, .instanceMethod objectInit, .code objectInit ⟨#[0xb1]⟩ 1 none, .fieldLink RX1 9 "FrontDoor$Call" "number" "I", .fieldLink RX1 15 "FrontDoor$Call" "key" "I", .fieldLink RX1 18 "FrontDoor$Call" "grade" "I", .fieldLink RX1 21 "FrontDoor$Call" "came" "I", .fieldLink RX1 24 "FrontDoor$Call" "due" "I", .fieldLink RX1 27 "FrontDoor$Call" "safe" "Z", .fieldLink RX1 31 "FrontDoor$Call" "state" "I", .fieldLink RX1 34 "FrontDoor$Call" "ended" "I", .fieldLink RX1 37 "FrontDoor$Call" "answerer" "I"] ++ wsX10)
def wsX1_hasEnded : List Cond := .code yX1_hasEnded cX1_hasEnded 1 (some .boolean) :: ([.fieldLink RX1 31 "FrontDoor$Call" "state" "I"] ++ wsX10)
def wsX1_goesAheadOf : List Cond := .code yX1_goesAheadOf cX1_goesAheadOf 2 (some .boolean) :: ([.fieldLink RX1 18 "FrontDoor$Call" "grade" "I", .fieldLink RX1 24 "FrontDoor$Call" "due" "I", .fieldLink RX1 9 "FrontDoor$Call" "number" "I"] ++ wsX10)
def wsX1_begin : List Cond := .code yX1_begin cX1_begin 2 none :: ([.fieldLink RX1 40 "FrontDoor$Call" "first" "LFrontDoor$Asking;", .fieldLink RX1 44 "FrontDoor$Call" "second" "LFrontDoor$Asking;", .fieldLink RX1 47 "FrontDoor$Call" "tried" "I", .fieldLink RX1 50 "FrontDoor$Asking" "server" "LFrontDoor$Server;", .fieldLink RX1 56 "FrontDoor$Server" "number" "I", .fieldLink RX1 31 "FrontDoor$Call" "state" "I"] ++ wsX10 ++ wsX00 ++ wsX20)
def wsX1_letGo : List Cond := .code yX1_letGo cX1_letGo 2 none :: ([.fieldLink RX1 50 "FrontDoor$Asking" "server" "LFrontDoor$Server;", .fieldLink RX1 59 "FrontDoor$Server" "open" "I", .fieldLink RX1 40 "FrontDoor$Call" "first" "LFrontDoor$Asking;", .fieldLink RX1 44 "FrontDoor$Call" "second" "LFrontDoor$Asking;"] ++ wsX00 ++ wsX20 ++ wsX10)
def wsX1_callOffAll : List Cond := .code yX1_callOffAll cX1_callOffAll 1 none :: ([.fieldLink RX1 44 "FrontDoor$Call" "second" "LFrontDoor$Asking;", .fieldLink RX1 40 "FrontDoor$Call" "first" "LFrontDoor$Asking;", .methodLink RX1 62 yX1_letGo, .instanceMethod yX1_letGo, .selects RX1 yX1_letGo yX1_letGo, .initialized RX1, .code yX1_letGo cX1_letGo 2 none, .fieldLink RX1 50 "FrontDoor$Asking" "server" "LFrontDoor$Server;", .fieldLink RX1 59 "FrontDoor$Server" "open" "I"] ++ wsX10 ++ wsX00 ++ wsX20)
def wsX1_tell : List Cond := .code yX1_tell cX1_tell 2 (some .int) :: ([.fieldLink RX1 31 "FrontDoor$Call" "state" "I", .fieldLink RX1 15 "FrontDoor$Call" "key" "I", .fieldLink RX1 18 "FrontDoor$Call" "grade" "I", .fieldLink RX1 24 "FrontDoor$Call" "due" "I", .fieldLink RX1 27 "FrontDoor$Call" "safe" "Z", .fieldLink RX1 40 "FrontDoor$Call" "first" "LFrontDoor$Asking;", .fieldLink RX1 44 "FrontDoor$Call" "second" "LFrontDoor$Asking;", .fieldLink RX1 37 "FrontDoor$Call" "answerer" "I", .fieldLink RX1 50 "FrontDoor$Asking" "server" "LFrontDoor$Server;", .fieldLink RX1 56 "FrontDoor$Server" "number" "I", .fieldLink RX1 47 "FrontDoor$Call" "tried" "I", .fieldLink RX1 21 "FrontDoor$Call" "came" "I", .fieldLink RX1 34 "FrontDoor$Call" "ended" "I"] ++ wsX10 ++ wsX00 ++ wsX20)
def wsX2_init : List Cond := .code yX2_init cX2_init 7 none :: ([.methodLink RX2 3 objectInit, .instanceMethod objectInit, .code objectInit ⟨#[0xb1]⟩ 1 none, .fieldLink RX2 9 "FrontDoor$Server" "number" "I", .fieldLink RX2 15 "FrontDoor$Server" "weight" "I", .fieldLink RX2 18 "FrontDoor$Server" "zone" "I", .fieldLink RX2 21 "FrontDoor$Server" "room" "I", .fieldLink RX2 24 "FrontDoor$Server" "pace" "I", .fieldLink RX2 27 "FrontDoor$Server" "breaks" "I", .fieldLink RX2 30 "FrontDoor$Server" "health" "I", .fieldLink RX2 33 "FrontDoor$Server" "penalty" "I"] ++ wsX20)
def wsX2_mayBeAsked : List Cond := .code yX2_mayBeAsked cX2_mayBeAsked 2 (some .boolean) :: ([.fieldLink RX2 9 "FrontDoor$Server" "number" "I", .fieldLink RX2 36 "FrontDoor$Server" "open" "I", .fieldLink RX2 21 "FrontDoor$Server" "room" "I", .fieldLink RX2 30 "FrontDoor$Server" "health" "I"] ++ wsX20)
def wsX2_placeOfMark : List Cond := .code yX2_placeOfMark cX2_placeOfMark 2 (some .int) :: ([.constant RX2 39 (40503), .fieldLink RX2 9 "FrontDoor$Server" "number" "I", .constant RX2 40 (65535)] ++ wsX20)
def wsX2_wayFrom : List Cond := .code yX2_wayFrom cX2_wayFrom 4 (some .int) :: ([.constant RX2 40 (65535), .methodLink RX2 45 Lib.Math.min.name, .static Lib.Math.min.name, .initialized "java/lang/Math", .code Lib.Math.min.name Lib.Math.min.code 2 (some .int), .methodLink RX2 41 yX2_placeOfMark, .instanceMethod yX2_placeOfMark, .selects RX2 yX2_placeOfMark yX2_placeOfMark, .initialized RX2, .code yX2_placeOfMark cX2_placeOfMark 2 (some .int), .constant RX2 39 (40503), .fieldLink RX2 9 "FrontDoor$Server" "number" "I"] ++ wsX20)
def wsX2_takeAsking : List Cond := .code yX2_takeAsking cX2_takeAsking 4 (some (.object "FrontDoor$Asking")) :: ([.fieldLink RX2 51 "FrontDoor$Server" "asked" "I", .fieldLink RX2 36 "FrontDoor$Server" "open" "I", .fieldLink RX2 54 "FrontDoor$Server" "mute" "I", .fieldLink RX2 24 "FrontDoor$Server" "pace" "I", .fieldLink RX2 27 "FrontDoor$Server" "breaks" "I", .classLink RX2 57 RX0, .instantiable RX0 4, .initialized RX0, .methodLink RX2 59 yX0_init, .instanceMethod yX0_init, .code yX0_init cX0_init 5 none, .methodLink RX0 1 objectInit, .instanceMethod objectInit, .code objectInit ⟨#[0xb1]⟩ 1 none, .fieldLink RX0 7 "FrontDoor$Asking" "server" "LFrontDoor$Server;", .fieldLink RX0 13 "FrontDoor$Asking" "since" "I", .fieldLink RX0 17 "FrontDoor$Asking" "over" "I", .fieldLink RX0 20 "FrontDoor$Asking" "fails" "Z"] ++ wsX20 ++ wsX00)
def wsX2_answer : List Cond := .code yX2_answer cX2_answer 1 none :: ([.fieldLink RX2 62 "FrontDoor$Server" "answers" "I", .fieldLink RX2 65 "FrontDoor$Server" "row" "I", .fieldLink RX2 33 "FrontDoor$Server" "penalty" "I", .fieldLink RX2 30 "FrontDoor$Server" "health" "I"] ++ wsX20)
def wsX2_goOut : List Cond := .code yX2_goOut cX2_goOut 2 none :: ([.fieldLink RX2 30 "FrontDoor$Server" "health" "I", .fieldLink RX2 33 "FrontDoor$Server" "penalty" "I", .fieldLink RX2 68 "FrontDoor$Server" "until" "I", .methodLink RX2 45 Lib.Math.min.name, .static Lib.Math.min.name, .initialized "java/lang/Math", .code Lib.Math.min.name Lib.Math.min.code 2 (some .int), .fieldLink RX2 71 "FrontDoor$Server" "outs" "I", .fieldLink RX2 65 "FrontDoor$Server" "row" "I"] ++ wsX20)
def wsX2_tell : List Cond := .code yX2_tell cX2_tell 2 (some .int) :: ([.fieldLink RX2 30 "FrontDoor$Server" "health" "I", .fieldLink RX2 36 "FrontDoor$Server" "open" "I", .fieldLink RX2 51 "FrontDoor$Server" "asked" "I", .fieldLink RX2 62 "FrontDoor$Server" "answers" "I", .fieldLink RX2 77 "FrontDoor$Server" "failures" "I", .fieldLink RX2 65 "FrontDoor$Server" "row" "I", .fieldLink RX2 68 "FrontDoor$Server" "until" "I", .fieldLink RX2 33 "FrontDoor$Server" "penalty" "I", .fieldLink RX2 71 "FrontDoor$Server" "outs" "I", .fieldLink RX2 80 "FrontDoor$Server" "credit" "I", .constant RX2 83 (1000000000), .fieldLink RX2 15 "FrontDoor$Server" "weight" "I", .fieldLink RX2 18 "FrontDoor$Server" "zone" "I", .fieldLink RX2 21 "FrontDoor$Server" "room" "I", .fieldLink RX2 24 "FrontDoor$Server" "pace" "I", .fieldLink RX2 27 "FrontDoor$Server" "breaks" "I", .fieldLink RX2 54 "FrontDoor$Server" "mute" "I"] ++ wsX20)
def wsX2_change : List Cond := .code yX2_change cX2_change 4 (some .int) :: ([.fieldLink RX2 15 "FrontDoor$Server" "weight" "I", .fieldLink RX2 21 "FrontDoor$Server" "room" "I", .fieldLink RX2 24 "FrontDoor$Server" "pace" "I", .fieldLink RX2 27 "FrontDoor$Server" "breaks" "I", .fieldLink RX2 54 "FrontDoor$Server" "mute" "I", .methodLink RX2 74 yX2_tell, .instanceMethod yX2_tell, .selects RX2 yX2_tell yX2_tell, .initialized RX2, .code yX2_tell cX2_tell 2 (some .int), .fieldLink RX2 30 "FrontDoor$Server" "health" "I", .fieldLink RX2 36 "FrontDoor$Server" "open" "I", .fieldLink RX2 51 "FrontDoor$Server" "asked" "I", .fieldLink RX2 62 "FrontDoor$Server" "answers" "I", .fieldLink RX2 77 "FrontDoor$Server" "failures" "I", .fieldLink RX2 65 "FrontDoor$Server" "row" "I", .fieldLink RX2 68 "FrontDoor$Server" "until" "I", .fieldLink RX2 33 "FrontDoor$Server" "penalty" "I", .fieldLink RX2 71 "FrontDoor$Server" "outs" "I", .fieldLink RX2 80 "FrontDoor$Server" "credit" "I", .constant RX2 83 (1000000000), .fieldLink RX2 18 "FrontDoor$Server" "zone" "I"] ++ wsX20)
def wsJxa1e45_init_da8c8 : List Cond := .code yJxa1e45_init_da8c8 cJxa1e45_init_da8c8 1 none :: ([.methodLink RJxa1e45 1 objectInit, .instanceMethod objectInit, .code objectInit ⟨#[0xb1]⟩ 1 none])
def wsJxc12de_init_da8c8 : List Cond := .code yJxc12de_init_da8c8 cJxc12de_init_da8c8 1 none :: ([.fieldLink RJxc12de 7 "java/util/AbstractList" "modCount" "I", .methodLink RJxc12de 1 yJxa1e45_init_da8c8, .instanceMethod yJxa1e45_init_da8c8, .initialized RJxa1e45, .code yJxa1e45_init_da8c8 cJxa1e45_init_da8c8 1 none, .methodLink RJxa1e45 1 objectInit, .instanceMethod objectInit, .code objectInit ⟨#[0xb1]⟩ 1 none] ++ wsJx4a65c0)
def wsJx4a65c_init_da8c8 : List Cond := .code yJx4a65c_init_da8c8 cJx4a65c_init_da8c8 1 none :: ([.fieldLink RJx4a65c 39 "java/util/ArrayList" "DEFAULTCAPACITY_EMPTY_ELEMENTDATA" "[Ljava/lang/Object;", .fieldLink RJx4a65c 9 "java/util/ArrayList" "elementData" "[Ljava/lang/Object;", .methodLink RJx4a65c 1 yJxc12de_init_da8c8, .instanceMethod yJxc12de_init_da8c8, .initialized RJxc12de, .code yJxc12de_init_da8c8 cJxc12de_init_da8c8 1 none, .fieldLink RJxc12de 7 "java/util/AbstractList" "modCount" "I", .methodLink RJxc12de 1 yJxa1e45_init_da8c8, .instanceMethod yJxa1e45_init_da8c8, .initialized RJxa1e45, .code yJxa1e45_init_da8c8 cJxa1e45_init_da8c8 1 none, .methodLink RJxa1e45 1 objectInit, .instanceMethod objectInit, .code objectInit ⟨#[0xb1]⟩ 1 none] ++ wsJx4a65c0)
def wsX3_init_r1 : List Cond := [Cond.methodLink RX3 1 objectInit, Cond.instanceMethod objectInit, Cond.code objectInit ⟨#[0xb1]⟩ 1 none, Cond.classLink RX3 7 RJx4a65c, Cond.instantiable RJx4a65c 3, Cond.initialized RJx4a65c, Cond.fieldLink RX3 10 "FrontDoor" "servers" "Ljava/util/ArrayList;", Cond.fieldLink RX3 16 "FrontDoor" "calls" "Ljava/util/ArrayList;", Cond.fieldLink RX3 19 "FrontDoor" "live" "Ljava/util/ArrayList;", Cond.fieldLink RX3 22 "FrontDoor" "line" "Ljava/util/ArrayList;", Cond.arrayClass .int, Cond.fieldLink RX3 25 "FrontDoor" "refusals" "[I", Cond.fieldLink RX3 29 "FrontDoor" "ruleNow" "I", Cond.fieldLink RX3 33 "FrontDoor" "limitNow" "I", Cond.fieldLink RX3 36 "FrontDoor" "budgetNow" "I", Cond.methodLink RX3 9 yJx4a65c_init_da8c8, Cond.instanceMethod yJx4a65c_init_da8c8, Cond.code yJx4a65c_init_da8c8 cJx4a65c_init_da8c8 1 none, Cond.fieldLink RJx4a65c 39 "java/util/ArrayList" "DEFAULTCAPACITY_EMPTY_ELEMENTDATA" "[Ljava/lang/Object;", Cond.fieldLink RJx4a65c 9 "java/util/ArrayList" "elementData" "[Ljava/lang/Object;", Cond.methodLink RJx4a65c 1 yJxc12de_init_da8c8, Cond.instanceMethod yJxc12de_init_da8c8, Cond.initialized RJxc12de, Cond.code yJxc12de_init_da8c8 cJxc12de_init_da8c8 1 none]
def wsX3_init_r2 : List Cond := [Cond.fieldLink RJxc12de 7 "java/util/AbstractList" "modCount" "I", Cond.methodLink RJxc12de 1 yJxa1e45_init_da8c8, Cond.instanceMethod yJxa1e45_init_da8c8, Cond.initialized RJxa1e45, Cond.code yJxa1e45_init_da8c8 cJxa1e45_init_da8c8 1 none, Cond.methodLink RJxa1e45 1 objectInit]
def wsX3_init : List Cond := .code yX3_init cX3_init 1 none :: ((wsX3_init_r1 ++ wsX3_init_r2) ++ wsJx4a65c0 ++ wsX30)
def wsX3_refuse : List Cond := .code yX3_refuse cX3_refuse 3 (some .int) :: ([.fieldLink RX3 25 "FrontDoor" "refusals" "[I"] ++ wsX30)
def wsJx4a65c_size_8abf5 : List Cond := .code yJx4a65c_size_8abf5 cJx4a65c_size_8abf5 1 (some .int) :: ([.fieldLink RJx4a65c 48 "java/util/ArrayList" "size" "I"] ++ wsJx4a65c0)
def wsJ8_hugeLength_7cf53 : List Cond := .code yJ8_hugeLength_7cf53 cJ8_hugeLength_7cf53 3 (some .int) :: ([.constant RJ8 200 (2147483639)])
def wsJ8_newLength_cabcc : List Cond := .code yJ8_newLength_cabcc cJ8_newLength_cabcc 4 (some .int) :: ([.methodLink RJ8 194 Lib.Math.max.name, .static Lib.Math.max.name, .initialized "java/lang/Math", .code Lib.Math.max.name Lib.Math.max.code 2 (some .int), .constant RJ8 200 (2147483639), .methodLink RJ8 201 yJ8_hugeLength_7cf53, .static yJ8_hugeLength_7cf53, .initialized RJ8, .code yJ8_hugeLength_7cf53 cJ8_hugeLength_7cf53 3 (some .int)])
def wsJ7_copyOf_6403c : List Cond := .code yJ7_copyOf_6403c cJ7_copyOf_6403c 4 (some (.array (.object "java/lang/Object"))) :: ([.classLink RJ7 110 "[Ljava/lang/Object;", .classLink RJ7 2 "java/lang/Object", .methodLink RJ7 304 Lib.Math.min.name, .static Lib.Math.min.name, .initialized "java/lang/Math", .code Lib.Math.min.name Lib.Math.min.code 2 (some .int), .methodLink RJ7 150 arraycopyName, .native arraycopyName, .static arraycopyName, .initialized "java/lang/System"])
def wsJ7_copyOf_1904c : List Cond := .code yJ7_copyOf_1904c cJ7_copyOf_1904c 2 (some (.array (.object "java/lang/Object"))) :: ([.methodLink RJ7 86 ⟨"java/lang/Object", "getClass", "()Ljava/lang/Class;"⟩, .selects "[Ljava/lang/Object;" ⟨"java/lang/Object", "getClass", "()Ljava/lang/Class;"⟩ ⟨"java/lang/Object", "getClass", "()Ljava/lang/Class;"⟩, .instanceMethod ⟨"java/lang/Object", "getClass", "()Ljava/lang/Class;"⟩, .native ⟨"java/lang/Object", "getClass", "()Ljava/lang/Class;"⟩, .methodLink RJ7 300 yJ7_copyOf_6403c, .static yJ7_copyOf_6403c, .initialized RJ7, .code yJ7_copyOf_6403c cJ7_copyOf_6403c 4 (some (.array (.object "java/lang/Object"))), .classLink RJ7 110 "[Ljava/lang/Object;", .classLink RJ7 2 "java/lang/Object", .methodLink RJ7 304 Lib.Math.min.name, .static Lib.Math.min.name, .initialized "java/lang/Math", .code Lib.Math.min.name Lib.Math.min.code 2 (some .int), .methodLink RJ7 150 arraycopyName, .native arraycopyName, .static arraycopyName, .initialized "java/lang/System"])
def wsJx4a65c_grow_92f84_r1 : List Cond := [Cond.fieldLink RJx4a65c 9 "java/util/ArrayList" "elementData" "[Ljava/lang/Object;", Cond.fieldLink RJx4a65c 39 "java/util/ArrayList" "DEFAULTCAPACITY_EMPTY_ELEMENTDATA" "[Ljava/lang/Object;", Cond.methodLink RJx4a65c 79 Lib.Math.max.name, Cond.static Lib.Math.max.name, Cond.initialized "java/lang/Math", Cond.code Lib.Math.max.name Lib.Math.max.code 2 (some .int), Cond.classLink RJx4a65c 7 "java/lang/Object", Cond.methodLink RJx4a65c 73 yJ8_newLength_cabcc, Cond.static yJ8_newLength_cabcc, Cond.initialized RJ8, Cond.code yJ8_newLength_cabcc cJ8_newLength_cabcc 4 (some .int), Cond.methodLink RJ8 194 Lib.Math.max.name, Cond.constant RJ8 200 (2147483639), Cond.methodLink RJ8 201 yJ8_hugeLength_7cf53, Cond.static yJ8_hugeLength_7cf53, Cond.code yJ8_hugeLength_7cf53 cJ8_hugeLength_7cf53 3 (some .int), Cond.methodLink RJx4a65c 66 yJ7_copyOf_1904c, Cond.static yJ7_copyOf_1904c, Cond.initialized RJ7, Cond.code yJ7_copyOf_1904c cJ7_copyOf_1904c 2 (some (.array (.object "java/lang/Object"))), Cond.methodLink RJ7 86 ⟨"java/lang/Object", "getClass", "()Ljava/lang/Class;"⟩, Cond.selects "[Ljava/lang/Object;" ⟨"java/lang/Object", "getClass", "()Ljava/lang/Class;"⟩ ⟨"java/lang/Object", "getClass", "()Ljava/lang/Class;"⟩, Cond.instanceMethod ⟨"java/lang/Object", "getClass", "()Ljava/lang/Class;"⟩, Cond.native ⟨"java/lang/Object", "getClass", "()Ljava/lang/Class;"⟩]
def wsJx4a65c_grow_92f84_r2 : List Cond := [Cond.methodLink RJ7 300 yJ7_copyOf_6403c, Cond.static yJ7_copyOf_6403c, Cond.code yJ7_copyOf_6403c cJ7_copyOf_6403c 4 (some (.array (.object "java/lang/Object"))), Cond.classLink RJ7 110 "[Ljava/lang/Object;", Cond.classLink RJ7 2 "java/lang/Object", Cond.methodLink RJ7 304 Lib.Math.min.name, Cond.static Lib.Math.min.name, Cond.code Lib.Math.min.name Lib.Math.min.code 2 (some .int), Cond.methodLink RJ7 150 arraycopyName, Cond.native arraycopyName, Cond.static arraycopyName, Cond.initialized "java/lang/System"]
def wsJx4a65c_grow_92f84 : List Cond := .code yJx4a65c_grow_92f84 cJx4a65c_grow_92f84 4 (some (.array (.object "java/lang/Object"))) :: ((wsJx4a65c_grow_92f84_r1 ++ wsJx4a65c_grow_92f84_r2) ++ wsJx4a65c0)
def wsJx4a65c_grow_d5877_r1 : List Cond := [Cond.fieldLink RJx4a65c 48 "java/util/ArrayList" "size" "I", Cond.methodLink RJx4a65c 69 yJx4a65c_grow_92f84, Cond.instanceMethod yJx4a65c_grow_92f84, Cond.selects RJx4a65c yJx4a65c_grow_92f84 yJx4a65c_grow_92f84, Cond.initialized RJx4a65c, Cond.code yJx4a65c_grow_92f84 cJx4a65c_grow_92f84 4 (some (.array (.object "java/lang/Object"))), Cond.fieldLink RJx4a65c 9 "java/util/ArrayList" "elementData" "[Ljava/lang/Object;", Cond.fieldLink RJx4a65c 39 "java/util/ArrayList" "DEFAULTCAPACITY_EMPTY_ELEMENTDATA" "[Ljava/lang/Object;", Cond.methodLink RJx4a65c 79 Lib.Math.max.name, Cond.static Lib.Math.max.name, Cond.initialized "java/lang/Math", Cond.code Lib.Math.max.name Lib.Math.max.code 2 (some .int), Cond.classLink RJx4a65c 7 "java/lang/Object", Cond.methodLink RJx4a65c 73 yJ8_newLength_cabcc, Cond.static yJ8_newLength_cabcc, Cond.initialized RJ8, Cond.code yJ8_newLength_cabcc cJ8_newLength_cabcc 4 (some .int), Cond.methodLink RJ8 194 Lib.Math.max.name, Cond.constant RJ8 200 (2147483639), Cond.methodLink RJ8 201 yJ8_hugeLength_7cf53, Cond.static yJ8_hugeLength_7cf53, Cond.code yJ8_hugeLength_7cf53 cJ8_hugeLength_7cf53 3 (some .int), Cond.methodLink RJx4a65c 66 yJ7_copyOf_1904c, Cond.static yJ7_copyOf_1904c]
def wsJx4a65c_grow_d5877_r2 : List Cond := [Cond.initialized RJ7, Cond.code yJ7_copyOf_1904c cJ7_copyOf_1904c 2 (some (.array (.object "java/lang/Object"))), Cond.methodLink RJ7 86 ⟨"java/lang/Object", "getClass", "()Ljava/lang/Class;"⟩, Cond.selects "[Ljava/lang/Object;" ⟨"java/lang/Object", "getClass", "()Ljava/lang/Class;"⟩ ⟨"java/lang/Object", "getClass", "()Ljava/lang/Class;"⟩, Cond.instanceMethod ⟨"java/lang/Object", "getClass", "()Ljava/lang/Class;"⟩, Cond.native ⟨"java/lang/Object", "getClass", "()Ljava/lang/Class;"⟩, Cond.methodLink RJ7 300 yJ7_copyOf_6403c, Cond.static yJ7_copyOf_6403c, Cond.code yJ7_copyOf_6403c cJ7_copyOf_6403c 4 (some (.array (.object "java/lang/Object"))), Cond.classLink RJ7 110 "[Ljava/lang/Object;", Cond.classLink RJ7 2 "java/lang/Object", Cond.methodLink RJ7 304 Lib.Math.min.name, Cond.static Lib.Math.min.name, Cond.code Lib.Math.min.name Lib.Math.min.code 2 (some .int), Cond.methodLink RJ7 150 arraycopyName, Cond.native arraycopyName, Cond.static arraycopyName, Cond.initialized "java/lang/System"]
def wsJx4a65c_grow_d5877 : List Cond := .code yJx4a65c_grow_d5877 cJx4a65c_grow_d5877 1 (some (.array (.object "java/lang/Object"))) :: ((wsJx4a65c_grow_d5877_r1 ++ wsJx4a65c_grow_d5877_r2) ++ wsJx4a65c0)
def wsJx4a65c_add_72be8_r1 : List Cond := [Cond.fieldLink RJx4a65c 48 "java/util/ArrayList" "size" "I", Cond.methodLink RJx4a65c 129 yJx4a65c_grow_d5877, Cond.instanceMethod yJx4a65c_grow_d5877, Cond.selects RJx4a65c yJx4a65c_grow_d5877 yJx4a65c_grow_d5877, Cond.initialized RJx4a65c, Cond.code yJx4a65c_grow_d5877 cJx4a65c_grow_d5877 1 (some (.array (.object "java/lang/Object"))), Cond.methodLink RJx4a65c 69 yJx4a65c_grow_92f84, Cond.instanceMethod yJx4a65c_grow_92f84, Cond.selects RJx4a65c yJx4a65c_grow_92f84 yJx4a65c_grow_92f84, Cond.code yJx4a65c_grow_92f84 cJx4a65c_grow_92f84 4 (some (.array (.object "java/lang/Object"))), Cond.fieldLink RJx4a65c 9 "java/util/ArrayList" "elementData" "[Ljava/lang/Object;", Cond.fieldLink RJx4a65c 39 "java/util/ArrayList" "DEFAULTCAPACITY_EMPTY_ELEMENTDATA" "[Ljava/lang/Object;", Cond.methodLink RJx4a65c 79 Lib.Math.max.name, Cond.static Lib.Math.max.name, Cond.initialized "java/lang/Math", Cond.code Lib.Math.max.name Lib.Math.max.code 2 (some .int), Cond.classLink RJx4a65c 7 "java/lang/Object", Cond.methodLink RJx4a65c 73 yJ8_newLength_cabcc, Cond.static yJ8_newLength_cabcc, Cond.initialized RJ8, Cond.code yJ8_newLength_cabcc cJ8_newLength_cabcc 4 (some .int), Cond.methodLink RJ8 194 Lib.Math.max.name, Cond.constant RJ8 200 (2147483639), Cond.methodLink RJ8 201 yJ8_hugeLength_7cf53]
def wsJx4a65c_add_72be8_r2 : List Cond := [Cond.static yJ8_hugeLength_7cf53, Cond.code yJ8_hugeLength_7cf53 cJ8_hugeLength_7cf53 3 (some .int), Cond.methodLink RJx4a65c 66 yJ7_copyOf_1904c, Cond.static yJ7_copyOf_1904c, Cond.initialized RJ7, Cond.code yJ7_copyOf_1904c cJ7_copyOf_1904c 2 (some (.array (.object "java/lang/Object"))), Cond.methodLink RJ7 86 ⟨"java/lang/Object", "getClass", "()Ljava/lang/Class;"⟩, Cond.selects "[Ljava/lang/Object;" ⟨"java/lang/Object", "getClass", "()Ljava/lang/Class;"⟩ ⟨"java/lang/Object", "getClass", "()Ljava/lang/Class;"⟩, Cond.instanceMethod ⟨"java/lang/Object", "getClass", "()Ljava/lang/Class;"⟩, Cond.native ⟨"java/lang/Object", "getClass", "()Ljava/lang/Class;"⟩, Cond.methodLink RJ7 300 yJ7_copyOf_6403c, Cond.static yJ7_copyOf_6403c, Cond.code yJ7_copyOf_6403c cJ7_copyOf_6403c 4 (some (.array (.object "java/lang/Object"))), Cond.classLink RJ7 110 "[Ljava/lang/Object;", Cond.classLink RJ7 2 "java/lang/Object", Cond.methodLink RJ7 304 Lib.Math.min.name, Cond.static Lib.Math.min.name, Cond.code Lib.Math.min.name Lib.Math.min.code 2 (some .int), Cond.methodLink RJ7 150 arraycopyName, Cond.native arraycopyName, Cond.static arraycopyName, Cond.initialized "java/lang/System"]
def wsJx4a65c_add_72be8 : List Cond := .code yJx4a65c_add_72be8 cJx4a65c_add_72be8 4 none :: ((wsJx4a65c_add_72be8_r1 ++ wsJx4a65c_add_72be8_r2) ++ wsJx4a65c0)
def wsJx4a65c_add_9ea2d_r1 : List Cond := [Cond.fieldLink RJx4a65c 63 "java/util/ArrayList" "modCount" "I", Cond.sameField "java/util/ArrayList" "java/util/AbstractList" "modCount" "I", Cond.fieldLink RJx4a65c 9 "java/util/ArrayList" "elementData" "[Ljava/lang/Object;", Cond.fieldLink RJx4a65c 48 "java/util/ArrayList" "size" "I", Cond.methodLink RJx4a65c 131 yJx4a65c_add_72be8, Cond.instanceMethod yJx4a65c_add_72be8, Cond.selects RJx4a65c yJx4a65c_add_72be8 yJx4a65c_add_72be8, Cond.initialized RJx4a65c, Cond.code yJx4a65c_add_72be8 cJx4a65c_add_72be8 4 none, Cond.methodLink RJx4a65c 129 yJx4a65c_grow_d5877, Cond.instanceMethod yJx4a65c_grow_d5877, Cond.selects RJx4a65c yJx4a65c_grow_d5877 yJx4a65c_grow_d5877, Cond.code yJx4a65c_grow_d5877 cJx4a65c_grow_d5877 1 (some (.array (.object "java/lang/Object"))), Cond.methodLink RJx4a65c 69 yJx4a65c_grow_92f84, Cond.instanceMethod yJx4a65c_grow_92f84, Cond.selects RJx4a65c yJx4a65c_grow_92f84 yJx4a65c_grow_92f84, Cond.code yJx4a65c_grow_92f84 cJx4a65c_grow_92f84 4 (some (.array (.object "java/lang/Object"))), Cond.fieldLink RJx4a65c 39 "java/util/ArrayList" "DEFAULTCAPACITY_EMPTY_ELEMENTDATA" "[Ljava/lang/Object;", Cond.methodLink RJx4a65c 79 Lib.Math.max.name, Cond.static Lib.Math.max.name, Cond.initialized "java/lang/Math", Cond.code Lib.Math.max.name Lib.Math.max.code 2 (some .int), Cond.classLink RJx4a65c 7 "java/lang/Object", Cond.methodLink RJx4a65c 73 yJ8_newLength_cabcc]
def wsJx4a65c_add_9ea2d_r2 : List Cond := [Cond.static yJ8_newLength_cabcc, Cond.initialized RJ8, Cond.code yJ8_newLength_cabcc cJ8_newLength_cabcc 4 (some .int), Cond.methodLink RJ8 194 Lib.Math.max.name, Cond.constant RJ8 200 (2147483639), Cond.methodLink RJ8 201 yJ8_hugeLength_7cf53, Cond.static yJ8_hugeLength_7cf53, Cond.code yJ8_hugeLength_7cf53 cJ8_hugeLength_7cf53 3 (some .int), Cond.methodLink RJx4a65c 66 yJ7_copyOf_1904c, Cond.static yJ7_copyOf_1904c, Cond.initialized RJ7, Cond.code yJ7_copyOf_1904c cJ7_copyOf_1904c 2 (some (.array (.object "java/lang/Object"))), Cond.methodLink RJ7 86 ⟨"java/lang/Object", "getClass", "()Ljava/lang/Class;"⟩, Cond.selects "[Ljava/lang/Object;" ⟨"java/lang/Object", "getClass", "()Ljava/lang/Class;"⟩ ⟨"java/lang/Object", "getClass", "()Ljava/lang/Class;"⟩, Cond.instanceMethod ⟨"java/lang/Object", "getClass", "()Ljava/lang/Class;"⟩, Cond.native ⟨"java/lang/Object", "getClass", "()Ljava/lang/Class;"⟩, Cond.methodLink RJ7 300 yJ7_copyOf_6403c, Cond.static yJ7_copyOf_6403c, Cond.code yJ7_copyOf_6403c cJ7_copyOf_6403c 4 (some (.array (.object "java/lang/Object"))), Cond.classLink RJ7 110 "[Ljava/lang/Object;", Cond.classLink RJ7 2 "java/lang/Object", Cond.methodLink RJ7 304 Lib.Math.min.name, Cond.static Lib.Math.min.name, Cond.code Lib.Math.min.name Lib.Math.min.code 2 (some .int)]
def wsJx4a65c_add_9ea2d_r3 : List Cond := [Cond.methodLink RJ7 150 arraycopyName, Cond.native arraycopyName, Cond.static arraycopyName, Cond.initialized "java/lang/System"]
def wsJx4a65c_add_9ea2d : List Cond := .code yJx4a65c_add_9ea2d cJx4a65c_add_9ea2d 2 (some .boolean) :: ((wsJx4a65c_add_9ea2d_r1 ++ (wsJx4a65c_add_9ea2d_r2 ++ wsJx4a65c_add_9ea2d_r3)) ++ wsJx4a65c0)
def wsX3_server_r1 : List Cond := [Cond.fieldLink RX3 10 "FrontDoor" "servers" "Ljava/util/ArrayList;", Cond.classLink RX3 47 RX2, Cond.instantiable RX2 17, Cond.initialized RX2, Cond.fieldLink RX3 56 "FrontDoor$Server" "number" "I", Cond.methodLink RX3 39 yX3_refuse, Cond.instanceMethod yX3_refuse, Cond.selects RX3 yX3_refuse yX3_refuse, Cond.initialized RX3, Cond.code yX3_refuse cX3_refuse 3 (some .int), Cond.fieldLink RX3 25 "FrontDoor" "refusals" "[I", Cond.methodLink RX3 43 yJx4a65c_size_8abf5, Cond.instanceMethod yJx4a65c_size_8abf5, Cond.selects RJx4a65c yJx4a65c_size_8abf5 yJx4a65c_size_8abf5, Cond.initialized RJx4a65c, Cond.code yJx4a65c_size_8abf5 cJx4a65c_size_8abf5 1 (some .int), Cond.fieldLink RJx4a65c 48 "java/util/ArrayList" "size" "I", Cond.methodLink RX3 49 yX2_init, Cond.instanceMethod yX2_init, Cond.code yX2_init cX2_init 7 none, Cond.methodLink RX2 3 objectInit, Cond.instanceMethod objectInit, Cond.code objectInit ⟨#[0xb1]⟩ 1 none, Cond.fieldLink RX2 9 "FrontDoor$Server" "number" "I"]
def wsX3_server_r2 : List Cond := [Cond.fieldLink RX2 15 "FrontDoor$Server" "weight" "I", Cond.fieldLink RX2 18 "FrontDoor$Server" "zone" "I", Cond.fieldLink RX2 21 "FrontDoor$Server" "room" "I", Cond.fieldLink RX2 24 "FrontDoor$Server" "pace" "I", Cond.fieldLink RX2 27 "FrontDoor$Server" "breaks" "I", Cond.fieldLink RX2 30 "FrontDoor$Server" "health" "I", Cond.fieldLink RX2 33 "FrontDoor$Server" "penalty" "I", Cond.methodLink RX3 52 yJx4a65c_add_9ea2d, Cond.instanceMethod yJx4a65c_add_9ea2d, Cond.selects RJx4a65c yJx4a65c_add_9ea2d yJx4a65c_add_9ea2d, Cond.code yJx4a65c_add_9ea2d cJx4a65c_add_9ea2d 2 (some .boolean), Cond.fieldLink RJx4a65c 63 "java/util/ArrayList" "modCount" "I", Cond.sameField "java/util/ArrayList" "java/util/AbstractList" "modCount" "I", Cond.fieldLink RJx4a65c 9 "java/util/ArrayList" "elementData" "[Ljava/lang/Object;", Cond.methodLink RJx4a65c 131 yJx4a65c_add_72be8, Cond.instanceMethod yJx4a65c_add_72be8, Cond.selects RJx4a65c yJx4a65c_add_72be8 yJx4a65c_add_72be8, Cond.code yJx4a65c_add_72be8 cJx4a65c_add_72be8 4 none, Cond.methodLink RJx4a65c 129 yJx4a65c_grow_d5877, Cond.instanceMethod yJx4a65c_grow_d5877, Cond.selects RJx4a65c yJx4a65c_grow_d5877 yJx4a65c_grow_d5877, Cond.code yJx4a65c_grow_d5877 cJx4a65c_grow_d5877 1 (some (.array (.object "java/lang/Object"))), Cond.methodLink RJx4a65c 69 yJx4a65c_grow_92f84, Cond.instanceMethod yJx4a65c_grow_92f84]
def wsX3_server_r3 : List Cond := [Cond.selects RJx4a65c yJx4a65c_grow_92f84 yJx4a65c_grow_92f84, Cond.code yJx4a65c_grow_92f84 cJx4a65c_grow_92f84 4 (some (.array (.object "java/lang/Object"))), Cond.fieldLink RJx4a65c 39 "java/util/ArrayList" "DEFAULTCAPACITY_EMPTY_ELEMENTDATA" "[Ljava/lang/Object;", Cond.methodLink RJx4a65c 79 Lib.Math.max.name, Cond.static Lib.Math.max.name, Cond.initialized "java/lang/Math", Cond.code Lib.Math.max.name Lib.Math.max.code 2 (some .int), Cond.classLink RJx4a65c 7 "java/lang/Object", Cond.methodLink RJx4a65c 73 yJ8_newLength_cabcc, Cond.static yJ8_newLength_cabcc, Cond.initialized RJ8, Cond.code yJ8_newLength_cabcc cJ8_newLength_cabcc 4 (some .int), Cond.methodLink RJ8 194 Lib.Math.max.name, Cond.constant RJ8 200 (2147483639), Cond.methodLink RJ8 201 yJ8_hugeLength_7cf53, Cond.static yJ8_hugeLength_7cf53, Cond.code yJ8_hugeLength_7cf53 cJ8_hugeLength_7cf53 3 (some .int), Cond.methodLink RJx4a65c 66 yJ7_copyOf_1904c, Cond.static yJ7_copyOf_1904c, Cond.initialized RJ7, Cond.code yJ7_copyOf_1904c cJ7_copyOf_1904c 2 (some (.array (.object "java/lang/Object"))), Cond.methodLink RJ7 86 ⟨"java/lang/Object", "getClass", "()Ljava/lang/Class;"⟩, Cond.selects "[Ljava/lang/Object;" ⟨"java/lang/Object", "getClass", "()Ljava/lang/Class;"⟩ ⟨"java/lang/Object", "getClass", "()Ljava/lang/Class;"⟩, Cond.instanceMethod ⟨"java/lang/Object", "getClass", "()Ljava/lang/Class;"⟩]
def wsX3_server_r4 : List Cond := [Cond.native ⟨"java/lang/Object", "getClass", "()Ljava/lang/Class;"⟩, Cond.methodLink RJ7 300 yJ7_copyOf_6403c, Cond.static yJ7_copyOf_6403c, Cond.code yJ7_copyOf_6403c cJ7_copyOf_6403c 4 (some (.array (.object "java/lang/Object"))), Cond.classLink RJ7 110 "[Ljava/lang/Object;", Cond.classLink RJ7 2 "java/lang/Object", Cond.methodLink RJ7 304 Lib.Math.min.name, Cond.static Lib.Math.min.name, Cond.code Lib.Math.min.name Lib.Math.min.code 2 (some .int), Cond.methodLink RJ7 150 arraycopyName, Cond.native arraycopyName, Cond.static arraycopyName, Cond.initialized "java/lang/System"]
def wsX3_server : List Cond := .code yX3_server cX3_server 7 (some .int) :: ((wsX3_server_r1 ++ (wsX3_server_r2 ++ (wsX3_server_r3 ++ wsX3_server_r4))) ++ wsX30 ++ wsX20 ++ wsJx4a65c0)
def wsJ3_checkIndex_8e157 : List Cond := .code yJ3_checkIndex_8e157 cJ3_checkIndex_8e157 3 (some .int) :: ([])
def wsJ15_checkIndex_7cf53 : List Cond := .code yJ15_checkIndex_7cf53 cJ15_checkIndex_7cf53 2 (some .int) :: ([.methodLink RJ15 105 yJ3_checkIndex_8e157, .static yJ3_checkIndex_8e157, .initialized RJ3, .code yJ3_checkIndex_8e157 cJ3_checkIndex_8e157 3 (some .int)])
def wsJx4a65c_elementData_915e3 : List Cond := .code yJx4a65c_elementData_915e3 cJx4a65c_elementData_915e3 2 (some (.object "java/lang/Object")) :: ([.fieldLink RJx4a65c 9 "java/util/ArrayList" "elementData" "[Ljava/lang/Object;"] ++ wsJx4a65c0)
def wsJx4a65c_get_915e3 : List Cond := .code yJx4a65c_get_915e3 cJx4a65c_get_915e3 2 (some (.object "java/lang/Object")) :: ([.fieldLink RJx4a65c 48 "java/util/ArrayList" "size" "I", .methodLink RJx4a65c 118 yJ15_checkIndex_7cf53, .static yJ15_checkIndex_7cf53, .initialized RJ15, .code yJ15_checkIndex_7cf53 cJ15_checkIndex_7cf53 2 (some .int), .methodLink RJ15 105 yJ3_checkIndex_8e157, .static yJ3_checkIndex_8e157, .initialized RJ3, .code yJ3_checkIndex_8e157 cJ3_checkIndex_8e157 3 (some .int), .methodLink RJx4a65c 123 yJx4a65c_elementData_915e3, .instanceMethod yJx4a65c_elementData_915e3, .selects RJx4a65c yJx4a65c_elementData_915e3 yJx4a65c_elementData_915e3, .initialized RJx4a65c, .code yJx4a65c_elementData_915e3 cJx4a65c_elementData_915e3 2 (some (.object "java/lang/Object")), .fieldLink RJx4a65c 9 "java/util/ArrayList" "elementData" "[Ljava/lang/Object;"] ++ wsJx4a65c0)
def wsX3_serverAt_r1 : List Cond := [Cond.fieldLink RX3 10 "FrontDoor" "servers" "Ljava/util/ArrayList;", Cond.classLink RX3 47 "FrontDoor$Server", Cond.methodLink RX3 43 yJx4a65c_size_8abf5, Cond.instanceMethod yJx4a65c_size_8abf5, Cond.selects RJx4a65c yJx4a65c_size_8abf5 yJx4a65c_size_8abf5, Cond.initialized RJx4a65c, Cond.code yJx4a65c_size_8abf5 cJx4a65c_size_8abf5 1 (some .int), Cond.fieldLink RJx4a65c 48 "java/util/ArrayList" "size" "I", Cond.methodLink RX3 151 yJx4a65c_get_915e3, Cond.instanceMethod yJx4a65c_get_915e3, Cond.selects RJx4a65c yJx4a65c_get_915e3 yJx4a65c_get_915e3, Cond.code yJx4a65c_get_915e3 cJx4a65c_get_915e3 2 (some (.object "java/lang/Object")), Cond.methodLink RJx4a65c 118 yJ15_checkIndex_7cf53, Cond.static yJ15_checkIndex_7cf53, Cond.initialized RJ15, Cond.code yJ15_checkIndex_7cf53 cJ15_checkIndex_7cf53 2 (some .int), Cond.methodLink RJ15 105 yJ3_checkIndex_8e157, Cond.static yJ3_checkIndex_8e157, Cond.initialized RJ3, Cond.code yJ3_checkIndex_8e157 cJ3_checkIndex_8e157 3 (some .int), Cond.methodLink RJx4a65c 123 yJx4a65c_elementData_915e3, Cond.instanceMethod yJx4a65c_elementData_915e3, Cond.selects RJx4a65c yJx4a65c_elementData_915e3 yJx4a65c_elementData_915e3, Cond.code yJx4a65c_elementData_915e3 cJx4a65c_elementData_915e3 2 (some (.object "java/lang/Object"))]
def wsX3_serverAt_r2 : List Cond := [Cond.fieldLink RJx4a65c 9 "java/util/ArrayList" "elementData" "[Ljava/lang/Object;"]
def wsX3_serverAt : List Cond := .code yX3_serverAt cX3_serverAt 2 (some (.object "FrontDoor$Server")) :: ((wsX3_serverAt_r1 ++ wsX3_serverAt_r2) ++ wsX30 ++ wsJx4a65c0)
def wsX3_leastOf : List Cond := .code yX3_leastOf cX3_leastOf 1 (some .int) :: ([])
def wsX3_greatestOf : List Cond := .code yX3_greatestOf cX3_greatestOf 1 (some .int) :: ([])
def wsX3_faultOf : List Cond := .code yX3_faultOf cX3_faultOf 3 (some .int) :: ([])
def wsX3_set_r1 : List Cond := [Cond.fieldLink RX3 63 "FrontDoor$Server" "health" "I", Cond.methodLink RX3 59 yX3_serverAt, Cond.instanceMethod yX3_serverAt, Cond.selects RX3 yX3_serverAt yX3_serverAt, Cond.initialized RX3, Cond.code yX3_serverAt cX3_serverAt 2 (some (.object "FrontDoor$Server")), Cond.fieldLink RX3 10 "FrontDoor" "servers" "Ljava/util/ArrayList;", Cond.classLink RX3 47 "FrontDoor$Server", Cond.methodLink RX3 43 yJx4a65c_size_8abf5, Cond.instanceMethod yJx4a65c_size_8abf5, Cond.selects RJx4a65c yJx4a65c_size_8abf5 yJx4a65c_size_8abf5, Cond.initialized RJx4a65c, Cond.code yJx4a65c_size_8abf5 cJx4a65c_size_8abf5 1 (some .int), Cond.fieldLink RJx4a65c 48 "java/util/ArrayList" "size" "I", Cond.methodLink RX3 151 yJx4a65c_get_915e3, Cond.instanceMethod yJx4a65c_get_915e3, Cond.selects RJx4a65c yJx4a65c_get_915e3 yJx4a65c_get_915e3, Cond.code yJx4a65c_get_915e3 cJx4a65c_get_915e3 2 (some (.object "java/lang/Object")), Cond.methodLink RJx4a65c 118 yJ15_checkIndex_7cf53, Cond.static yJ15_checkIndex_7cf53, Cond.initialized RJ15, Cond.code yJ15_checkIndex_7cf53 cJ15_checkIndex_7cf53 2 (some .int), Cond.methodLink RJ15 105 yJ3_checkIndex_8e157, Cond.static yJ3_checkIndex_8e157]
def wsX3_set_r2 : List Cond := [Cond.initialized RJ3, Cond.code yJ3_checkIndex_8e157 cJ3_checkIndex_8e157 3 (some .int), Cond.methodLink RJx4a65c 123 yJx4a65c_elementData_915e3, Cond.instanceMethod yJx4a65c_elementData_915e3, Cond.selects RJx4a65c yJx4a65c_elementData_915e3 yJx4a65c_elementData_915e3, Cond.code yJx4a65c_elementData_915e3 cJx4a65c_elementData_915e3 2 (some (.object "java/lang/Object")), Cond.fieldLink RJx4a65c 9 "java/util/ArrayList" "elementData" "[Ljava/lang/Object;", Cond.methodLink RX3 39 yX3_refuse, Cond.instanceMethod yX3_refuse, Cond.selects RX3 yX3_refuse yX3_refuse, Cond.code yX3_refuse cX3_refuse 3 (some .int), Cond.fieldLink RX3 25 "FrontDoor" "refusals" "[I", Cond.methodLink RX3 66 yX3_leastOf, Cond.static yX3_leastOf, Cond.code yX3_leastOf cX3_leastOf 1 (some .int), Cond.methodLink RX3 69 yX3_greatestOf, Cond.static yX3_greatestOf, Cond.code yX3_greatestOf cX3_greatestOf 1 (some .int), Cond.methodLink RX3 72 yX3_faultOf, Cond.static yX3_faultOf, Cond.code yX3_faultOf cX3_faultOf 3 (some .int), Cond.methodLink RX3 76 yX2_change, Cond.instanceMethod yX2_change, Cond.selects RX2 yX2_change yX2_change]
def wsX3_set_r3 : List Cond := [Cond.initialized RX2, Cond.code yX2_change cX2_change 4 (some .int), Cond.fieldLink RX2 15 "FrontDoor$Server" "weight" "I", Cond.fieldLink RX2 21 "FrontDoor$Server" "room" "I", Cond.fieldLink RX2 24 "FrontDoor$Server" "pace" "I", Cond.fieldLink RX2 27 "FrontDoor$Server" "breaks" "I", Cond.fieldLink RX2 54 "FrontDoor$Server" "mute" "I", Cond.methodLink RX2 74 yX2_tell, Cond.instanceMethod yX2_tell, Cond.selects RX2 yX2_tell yX2_tell, Cond.code yX2_tell cX2_tell 2 (some .int), Cond.fieldLink RX2 30 "FrontDoor$Server" "health" "I", Cond.fieldLink RX2 36 "FrontDoor$Server" "open" "I", Cond.fieldLink RX2 51 "FrontDoor$Server" "asked" "I", Cond.fieldLink RX2 62 "FrontDoor$Server" "answers" "I", Cond.fieldLink RX2 77 "FrontDoor$Server" "failures" "I", Cond.fieldLink RX2 65 "FrontDoor$Server" "row" "I", Cond.fieldLink RX2 68 "FrontDoor$Server" "until" "I", Cond.fieldLink RX2 33 "FrontDoor$Server" "penalty" "I", Cond.fieldLink RX2 71 "FrontDoor$Server" "outs" "I", Cond.fieldLink RX2 80 "FrontDoor$Server" "credit" "I", Cond.constant RX2 83 (1000000000), Cond.fieldLink RX2 18 "FrontDoor$Server" "zone" "I"]
def wsX3_set : List Cond := .code yX3_set cX3_set 6 (some .int) :: ((wsX3_set_r1 ++ (wsX3_set_r2 ++ wsX3_set_r3)) ++ wsX20 ++ wsX30 ++ wsJx4a65c0)
def wsX3_drain_r1 : List Cond := [Cond.fieldLink RX3 63 "FrontDoor$Server" "health" "I", Cond.fieldLink RX3 80 "FrontDoor$Server" "open" "I", Cond.methodLink RX3 59 yX3_serverAt, Cond.instanceMethod yX3_serverAt, Cond.selects RX3 yX3_serverAt yX3_serverAt, Cond.initialized RX3, Cond.code yX3_serverAt cX3_serverAt 2 (some (.object "FrontDoor$Server")), Cond.fieldLink RX3 10 "FrontDoor" "servers" "Ljava/util/ArrayList;", Cond.classLink RX3 47 "FrontDoor$Server", Cond.methodLink RX3 43 yJx4a65c_size_8abf5, Cond.instanceMethod yJx4a65c_size_8abf5, Cond.selects RJx4a65c yJx4a65c_size_8abf5 yJx4a65c_size_8abf5, Cond.initialized RJx4a65c, Cond.code yJx4a65c_size_8abf5 cJx4a65c_size_8abf5 1 (some .int), Cond.fieldLink RJx4a65c 48 "java/util/ArrayList" "size" "I", Cond.methodLink RX3 151 yJx4a65c_get_915e3, Cond.instanceMethod yJx4a65c_get_915e3, Cond.selects RJx4a65c yJx4a65c_get_915e3 yJx4a65c_get_915e3, Cond.code yJx4a65c_get_915e3 cJx4a65c_get_915e3 2 (some (.object "java/lang/Object")), Cond.methodLink RJx4a65c 118 yJ15_checkIndex_7cf53, Cond.static yJ15_checkIndex_7cf53, Cond.initialized RJ15, Cond.code yJ15_checkIndex_7cf53 cJ15_checkIndex_7cf53 2 (some .int), Cond.methodLink RJ15 105 yJ3_checkIndex_8e157]
def wsX3_drain_r2 : List Cond := [Cond.static yJ3_checkIndex_8e157, Cond.initialized RJ3, Cond.code yJ3_checkIndex_8e157 cJ3_checkIndex_8e157 3 (some .int), Cond.methodLink RJx4a65c 123 yJx4a65c_elementData_915e3, Cond.instanceMethod yJx4a65c_elementData_915e3, Cond.selects RJx4a65c yJx4a65c_elementData_915e3 yJx4a65c_elementData_915e3, Cond.code yJx4a65c_elementData_915e3 cJx4a65c_elementData_915e3 2 (some (.object "java/lang/Object")), Cond.fieldLink RJx4a65c 9 "java/util/ArrayList" "elementData" "[Ljava/lang/Object;", Cond.methodLink RX3 39 yX3_refuse, Cond.instanceMethod yX3_refuse, Cond.selects RX3 yX3_refuse yX3_refuse, Cond.code yX3_refuse cX3_refuse 3 (some .int), Cond.fieldLink RX3 25 "FrontDoor" "refusals" "[I"]
def wsX3_drain : List Cond := .code yX3_drain cX3_drain 3 (some .int) :: ((wsX3_drain_r1 ++ wsX3_drain_r2) ++ wsX20 ++ wsX30 ++ wsJx4a65c0)
def wsX3_back_r1 : List Cond := [Cond.fieldLink RX3 63 "FrontDoor$Server" "health" "I", Cond.fieldLink RX3 83 "FrontDoor$Server" "row" "I", Cond.fieldLink RX3 86 "FrontDoor$Server" "penalty" "I", Cond.methodLink RX3 59 yX3_serverAt, Cond.instanceMethod yX3_serverAt, Cond.selects RX3 yX3_serverAt yX3_serverAt, Cond.initialized RX3, Cond.code yX3_serverAt cX3_serverAt 2 (some (.object "FrontDoor$Server")), Cond.fieldLink RX3 10 "FrontDoor" "servers" "Ljava/util/ArrayList;", Cond.classLink RX3 47 "FrontDoor$Server", Cond.methodLink RX3 43 yJx4a65c_size_8abf5, Cond.instanceMethod yJx4a65c_size_8abf5, Cond.selects RJx4a65c yJx4a65c_size_8abf5 yJx4a65c_size_8abf5, Cond.initialized RJx4a65c, Cond.code yJx4a65c_size_8abf5 cJx4a65c_size_8abf5 1 (some .int), Cond.fieldLink RJx4a65c 48 "java/util/ArrayList" "size" "I", Cond.methodLink RX3 151 yJx4a65c_get_915e3, Cond.instanceMethod yJx4a65c_get_915e3, Cond.selects RJx4a65c yJx4a65c_get_915e3 yJx4a65c_get_915e3, Cond.code yJx4a65c_get_915e3 cJx4a65c_get_915e3 2 (some (.object "java/lang/Object")), Cond.methodLink RJx4a65c 118 yJ15_checkIndex_7cf53, Cond.static yJ15_checkIndex_7cf53, Cond.initialized RJ15, Cond.code yJ15_checkIndex_7cf53 cJ15_checkIndex_7cf53 2 (some .int)]
def wsX3_back_r2 : List Cond := [Cond.methodLink RJ15 105 yJ3_checkIndex_8e157, Cond.static yJ3_checkIndex_8e157, Cond.initialized RJ3, Cond.code yJ3_checkIndex_8e157 cJ3_checkIndex_8e157 3 (some .int), Cond.methodLink RJx4a65c 123 yJx4a65c_elementData_915e3, Cond.instanceMethod yJx4a65c_elementData_915e3, Cond.selects RJx4a65c yJx4a65c_elementData_915e3 yJx4a65c_elementData_915e3, Cond.code yJx4a65c_elementData_915e3 cJx4a65c_elementData_915e3 2 (some (.object "java/lang/Object")), Cond.fieldLink RJx4a65c 9 "java/util/ArrayList" "elementData" "[Ljava/lang/Object;", Cond.methodLink RX3 39 yX3_refuse, Cond.instanceMethod yX3_refuse, Cond.selects RX3 yX3_refuse yX3_refuse, Cond.code yX3_refuse cX3_refuse 3 (some .int), Cond.fieldLink RX3 25 "FrontDoor" "refusals" "[I"]
def wsX3_back : List Cond := .code yX3_back cX3_back 3 (some .int) :: ((wsX3_back_r1 ++ wsX3_back_r2) ++ wsX20 ++ wsX30 ++ wsJx4a65c0)
def wsX3_rule : List Cond := .code yX3_rule cX3_rule 3 (some .int) :: ([.fieldLink RX3 29 "FrontDoor" "ruleNow" "I", .methodLink RX3 39 yX3_refuse, .instanceMethod yX3_refuse, .selects RX3 yX3_refuse yX3_refuse, .initialized RX3, .code yX3_refuse cX3_refuse 3 (some .int), .fieldLink RX3 25 "FrontDoor" "refusals" "[I"] ++ wsX30)
def wsX3_limit : List Cond := .code yX3_limit cX3_limit 4 (some .int) :: ([.fieldLink RX3 33 "FrontDoor" "limitNow" "I", .methodLink RX3 72 yX3_faultOf, .static yX3_faultOf, .initialized RX3, .code yX3_faultOf cX3_faultOf 3 (some .int), .methodLink RX3 39 yX3_refuse, .instanceMethod yX3_refuse, .selects RX3 yX3_refuse yX3_refuse, .code yX3_refuse cX3_refuse 3 (some .int), .fieldLink RX3 25 "FrontDoor" "refusals" "[I"] ++ wsX30)
def wsX3_budget : List Cond := .code yX3_budget cX3_budget 4 (some .int) :: ([.fieldLink RX3 36 "FrontDoor" "budgetNow" "I", .methodLink RX3 72 yX3_faultOf, .static yX3_faultOf, .initialized RX3, .code yX3_faultOf cX3_faultOf 3 (some .int), .methodLink RX3 39 yX3_refuse, .instanceMethod yX3_refuse, .selects RX3 yX3_refuse yX3_refuse, .code yX3_refuse cX3_refuse 3 (some .int), .fieldLink RX3 25 "FrontDoor" "refusals" "[I"] ++ wsX30)
def wsX3_hedge : List Cond := .code yX3_hedge cX3_hedge 4 (some .int) :: ([.fieldLink RX3 89 "FrontDoor" "hedgeNow" "I", .methodLink RX3 72 yX3_faultOf, .static yX3_faultOf, .initialized RX3, .code yX3_faultOf cX3_faultOf 3 (some .int), .methodLink RX3 39 yX3_refuse, .instanceMethod yX3_refuse, .selects RX3 yX3_refuse yX3_refuse, .code yX3_refuse cX3_refuse 3 (some .int), .fieldLink RX3 25 "FrontDoor" "refusals" "[I"] ++ wsX30)
def wsX3_byTurn_r1 : List Cond := [Cond.fieldLink RX3 10 "FrontDoor" "servers" "Ljava/util/ArrayList;", Cond.classLink RX3 47 "FrontDoor$Server", Cond.fieldLink RX3 186 "FrontDoor$Server" "credit" "I", Cond.fieldLink RX3 189 "FrontDoor$Server" "weight" "I", Cond.methodLink RX3 43 yJx4a65c_size_8abf5, Cond.instanceMethod yJx4a65c_size_8abf5, Cond.selects RJx4a65c yJx4a65c_size_8abf5 yJx4a65c_size_8abf5, Cond.initialized RJx4a65c, Cond.code yJx4a65c_size_8abf5 cJx4a65c_size_8abf5 1 (some .int), Cond.fieldLink RJx4a65c 48 "java/util/ArrayList" "size" "I", Cond.methodLink RX3 151 yJx4a65c_get_915e3, Cond.instanceMethod yJx4a65c_get_915e3, Cond.selects RJx4a65c yJx4a65c_get_915e3 yJx4a65c_get_915e3, Cond.code yJx4a65c_get_915e3 cJx4a65c_get_915e3 2 (some (.object "java/lang/Object")), Cond.methodLink RJx4a65c 118 yJ15_checkIndex_7cf53, Cond.static yJ15_checkIndex_7cf53, Cond.initialized RJ15, Cond.code yJ15_checkIndex_7cf53 cJ15_checkIndex_7cf53 2 (some .int), Cond.methodLink RJ15 105 yJ3_checkIndex_8e157, Cond.static yJ3_checkIndex_8e157, Cond.initialized RJ3, Cond.code yJ3_checkIndex_8e157 cJ3_checkIndex_8e157 3 (some .int), Cond.methodLink RJx4a65c 123 yJx4a65c_elementData_915e3, Cond.instanceMethod yJx4a65c_elementData_915e3]
def wsX3_byTurn_r2 : List Cond := [Cond.selects RJx4a65c yJx4a65c_elementData_915e3 yJx4a65c_elementData_915e3, Cond.code yJx4a65c_elementData_915e3 cJx4a65c_elementData_915e3 2 (some (.object "java/lang/Object")), Cond.fieldLink RJx4a65c 9 "java/util/ArrayList" "elementData" "[Ljava/lang/Object;", Cond.methodLink RX3 182 yX2_mayBeAsked, Cond.instanceMethod yX2_mayBeAsked, Cond.selects RX2 yX2_mayBeAsked yX2_mayBeAsked, Cond.initialized RX2, Cond.code yX2_mayBeAsked cX2_mayBeAsked 2 (some .boolean), Cond.fieldLink RX2 9 "FrontDoor$Server" "number" "I", Cond.fieldLink RX2 36 "FrontDoor$Server" "open" "I", Cond.fieldLink RX2 21 "FrontDoor$Server" "room" "I", Cond.fieldLink RX2 30 "FrontDoor$Server" "health" "I"]
def wsX3_byTurn : List Cond := .code yX3_byTurn cX3_byTurn 5 (some (.object "FrontDoor$Server")) :: ((wsX3_byTurn_r1 ++ wsX3_byTurn_r2) ++ wsX30 ++ wsX20 ++ wsJx4a65c0)
def wsX3_byRing_r1 : List Cond := [Cond.constant RX3 195 (65536), Cond.fieldLink RX3 10 "FrontDoor" "servers" "Ljava/util/ArrayList;", Cond.classLink RX3 47 "FrontDoor$Server", Cond.methodLink RX3 43 yJx4a65c_size_8abf5, Cond.instanceMethod yJx4a65c_size_8abf5, Cond.selects RJx4a65c yJx4a65c_size_8abf5 yJx4a65c_size_8abf5, Cond.initialized RJx4a65c, Cond.code yJx4a65c_size_8abf5 cJx4a65c_size_8abf5 1 (some .int), Cond.fieldLink RJx4a65c 48 "java/util/ArrayList" "size" "I", Cond.methodLink RX3 151 yJx4a65c_get_915e3, Cond.instanceMethod yJx4a65c_get_915e3, Cond.selects RJx4a65c yJx4a65c_get_915e3 yJx4a65c_get_915e3, Cond.code yJx4a65c_get_915e3 cJx4a65c_get_915e3 2 (some (.object "java/lang/Object")), Cond.methodLink RJx4a65c 118 yJ15_checkIndex_7cf53, Cond.static yJ15_checkIndex_7cf53, Cond.initialized RJ15, Cond.code yJ15_checkIndex_7cf53 cJ15_checkIndex_7cf53 2 (some .int), Cond.methodLink RJ15 105 yJ3_checkIndex_8e157, Cond.static yJ3_checkIndex_8e157, Cond.initialized RJ3, Cond.code yJ3_checkIndex_8e157 cJ3_checkIndex_8e157 3 (some .int), Cond.methodLink RJx4a65c 123 yJx4a65c_elementData_915e3, Cond.instanceMethod yJx4a65c_elementData_915e3, Cond.selects RJx4a65c yJx4a65c_elementData_915e3 yJx4a65c_elementData_915e3]
def wsX3_byRing_r2 : List Cond := [Cond.code yJx4a65c_elementData_915e3 cJx4a65c_elementData_915e3 2 (some (.object "java/lang/Object")), Cond.fieldLink RJx4a65c 9 "java/util/ArrayList" "elementData" "[Ljava/lang/Object;", Cond.methodLink RX3 182 yX2_mayBeAsked, Cond.instanceMethod yX2_mayBeAsked, Cond.selects RX2 yX2_mayBeAsked yX2_mayBeAsked, Cond.initialized RX2, Cond.code yX2_mayBeAsked cX2_mayBeAsked 2 (some .boolean), Cond.fieldLink RX2 9 "FrontDoor$Server" "number" "I", Cond.fieldLink RX2 36 "FrontDoor$Server" "open" "I", Cond.fieldLink RX2 21 "FrontDoor$Server" "room" "I", Cond.fieldLink RX2 30 "FrontDoor$Server" "health" "I", Cond.methodLink RX3 196 yX2_wayFrom, Cond.instanceMethod yX2_wayFrom, Cond.selects RX2 yX2_wayFrom yX2_wayFrom, Cond.code yX2_wayFrom cX2_wayFrom 4 (some .int), Cond.constant RX2 40 (65535), Cond.methodLink RX2 45 Lib.Math.min.name, Cond.static Lib.Math.min.name, Cond.initialized "java/lang/Math", Cond.code Lib.Math.min.name Lib.Math.min.code 2 (some .int), Cond.methodLink RX2 41 yX2_placeOfMark, Cond.instanceMethod yX2_placeOfMark, Cond.selects RX2 yX2_placeOfMark yX2_placeOfMark, Cond.code yX2_placeOfMark cX2_placeOfMark 2 (some .int)]
def wsX3_byRing_r3 : List Cond := [Cond.constant RX2 39 (40503)]
def wsX3_byRing : List Cond := .code yX3_byRing cX3_byRing 7 (some (.object "FrontDoor$Server")) :: ((wsX3_byRing_r1 ++ (wsX3_byRing_r2 ++ wsX3_byRing_r3)) ++ wsX30 ++ wsJx4a65c0 ++ wsX20)
def wsX3_byFewest_r1 : List Cond := [Cond.fieldLink RX3 10 "FrontDoor" "servers" "Ljava/util/ArrayList;", Cond.classLink RX3 47 "FrontDoor$Server", Cond.fieldLink RX3 192 "FrontDoor$Server" "zone" "I", Cond.fieldLink RX3 80 "FrontDoor$Server" "open" "I", Cond.fieldLink RX3 189 "FrontDoor$Server" "weight" "I", Cond.methodLink RX3 43 yJx4a65c_size_8abf5, Cond.instanceMethod yJx4a65c_size_8abf5, Cond.selects RJx4a65c yJx4a65c_size_8abf5 yJx4a65c_size_8abf5, Cond.initialized RJx4a65c, Cond.code yJx4a65c_size_8abf5 cJx4a65c_size_8abf5 1 (some .int), Cond.fieldLink RJx4a65c 48 "java/util/ArrayList" "size" "I", Cond.methodLink RX3 151 yJx4a65c_get_915e3, Cond.instanceMethod yJx4a65c_get_915e3, Cond.selects RJx4a65c yJx4a65c_get_915e3 yJx4a65c_get_915e3, Cond.code yJx4a65c_get_915e3 cJx4a65c_get_915e3 2 (some (.object "java/lang/Object")), Cond.methodLink RJx4a65c 118 yJ15_checkIndex_7cf53, Cond.static yJ15_checkIndex_7cf53, Cond.initialized RJ15, Cond.code yJ15_checkIndex_7cf53 cJ15_checkIndex_7cf53 2 (some .int), Cond.methodLink RJ15 105 yJ3_checkIndex_8e157, Cond.static yJ3_checkIndex_8e157, Cond.initialized RJ3, Cond.code yJ3_checkIndex_8e157 cJ3_checkIndex_8e157 3 (some .int), Cond.methodLink RJx4a65c 123 yJx4a65c_elementData_915e3]
def wsX3_byFewest_r2 : List Cond := [Cond.instanceMethod yJx4a65c_elementData_915e3, Cond.selects RJx4a65c yJx4a65c_elementData_915e3 yJx4a65c_elementData_915e3, Cond.code yJx4a65c_elementData_915e3 cJx4a65c_elementData_915e3 2 (some (.object "java/lang/Object")), Cond.fieldLink RJx4a65c 9 "java/util/ArrayList" "elementData" "[Ljava/lang/Object;", Cond.methodLink RX3 182 yX2_mayBeAsked, Cond.instanceMethod yX2_mayBeAsked, Cond.selects RX2 yX2_mayBeAsked yX2_mayBeAsked, Cond.initialized RX2, Cond.code yX2_mayBeAsked cX2_mayBeAsked 2 (some .boolean), Cond.fieldLink RX2 9 "FrontDoor$Server" "number" "I", Cond.fieldLink RX2 36 "FrontDoor$Server" "open" "I", Cond.fieldLink RX2 21 "FrontDoor$Server" "room" "I", Cond.fieldLink RX2 30 "FrontDoor$Server" "health" "I"]
def wsX3_byFewest : List Cond := .code yX3_byFewest cX3_byFewest 7 (some (.object "FrontDoor$Server")) :: ((wsX3_byFewest_r1 ++ wsX3_byFewest_r2) ++ wsX30 ++ wsX20 ++ wsJx4a65c0)
def wsX3_chosen_r1 : List Cond := [Cond.fieldLink RX3 29 "FrontDoor" "ruleNow" "I", Cond.methodLink RX3 173 yX3_byTurn, Cond.instanceMethod yX3_byTurn, Cond.selects RX3 yX3_byTurn yX3_byTurn, Cond.initialized RX3, Cond.code yX3_byTurn cX3_byTurn 5 (some (.object "FrontDoor$Server")), Cond.fieldLink RX3 10 "FrontDoor" "servers" "Ljava/util/ArrayList;", Cond.classLink RX3 47 "FrontDoor$Server", Cond.fieldLink RX3 186 "FrontDoor$Server" "credit" "I", Cond.fieldLink RX3 189 "FrontDoor$Server" "weight" "I", Cond.methodLink RX3 43 yJx4a65c_size_8abf5, Cond.instanceMethod yJx4a65c_size_8abf5, Cond.selects RJx4a65c yJx4a65c_size_8abf5 yJx4a65c_size_8abf5, Cond.initialized RJx4a65c, Cond.code yJx4a65c_size_8abf5 cJx4a65c_size_8abf5 1 (some .int), Cond.fieldLink RJx4a65c 48 "java/util/ArrayList" "size" "I", Cond.methodLink RX3 151 yJx4a65c_get_915e3, Cond.instanceMethod yJx4a65c_get_915e3, Cond.selects RJx4a65c yJx4a65c_get_915e3 yJx4a65c_get_915e3, Cond.code yJx4a65c_get_915e3 cJx4a65c_get_915e3 2 (some (.object "java/lang/Object")), Cond.methodLink RJx4a65c 118 yJ15_checkIndex_7cf53, Cond.static yJ15_checkIndex_7cf53, Cond.initialized RJ15, Cond.code yJ15_checkIndex_7cf53 cJ15_checkIndex_7cf53 2 (some .int)]
def wsX3_chosen_r2 : List Cond := [Cond.methodLink RJ15 105 yJ3_checkIndex_8e157, Cond.static yJ3_checkIndex_8e157, Cond.initialized RJ3, Cond.code yJ3_checkIndex_8e157 cJ3_checkIndex_8e157 3 (some .int), Cond.methodLink RJx4a65c 123 yJx4a65c_elementData_915e3, Cond.instanceMethod yJx4a65c_elementData_915e3, Cond.selects RJx4a65c yJx4a65c_elementData_915e3 yJx4a65c_elementData_915e3, Cond.code yJx4a65c_elementData_915e3 cJx4a65c_elementData_915e3 2 (some (.object "java/lang/Object")), Cond.fieldLink RJx4a65c 9 "java/util/ArrayList" "elementData" "[Ljava/lang/Object;", Cond.methodLink RX3 182 yX2_mayBeAsked, Cond.instanceMethod yX2_mayBeAsked, Cond.selects RX2 yX2_mayBeAsked yX2_mayBeAsked, Cond.initialized RX2, Cond.code yX2_mayBeAsked cX2_mayBeAsked 2 (some .boolean), Cond.fieldLink RX2 9 "FrontDoor$Server" "number" "I", Cond.fieldLink RX2 36 "FrontDoor$Server" "open" "I", Cond.fieldLink RX2 21 "FrontDoor$Server" "room" "I", Cond.fieldLink RX2 30 "FrontDoor$Server" "health" "I", Cond.methodLink RX3 176 yX3_byRing, Cond.instanceMethod yX3_byRing, Cond.selects RX3 yX3_byRing yX3_byRing, Cond.code yX3_byRing cX3_byRing 7 (some (.object "FrontDoor$Server")), Cond.constant RX3 195 (65536), Cond.methodLink RX3 196 yX2_wayFrom]
def wsX3_chosen_r3 : List Cond := [Cond.instanceMethod yX2_wayFrom, Cond.selects RX2 yX2_wayFrom yX2_wayFrom, Cond.code yX2_wayFrom cX2_wayFrom 4 (some .int), Cond.constant RX2 40 (65535), Cond.methodLink RX2 45 Lib.Math.min.name, Cond.static Lib.Math.min.name, Cond.initialized "java/lang/Math", Cond.code Lib.Math.min.name Lib.Math.min.code 2 (some .int), Cond.methodLink RX2 41 yX2_placeOfMark, Cond.instanceMethod yX2_placeOfMark, Cond.selects RX2 yX2_placeOfMark yX2_placeOfMark, Cond.code yX2_placeOfMark cX2_placeOfMark 2 (some .int), Cond.constant RX2 39 (40503), Cond.methodLink RX3 179 yX3_byFewest, Cond.instanceMethod yX3_byFewest, Cond.selects RX3 yX3_byFewest yX3_byFewest, Cond.code yX3_byFewest cX3_byFewest 7 (some (.object "FrontDoor$Server")), Cond.fieldLink RX3 192 "FrontDoor$Server" "zone" "I", Cond.fieldLink RX3 80 "FrontDoor$Server" "open" "I"]
def wsX3_chosen : List Cond := .code yX3_chosen cX3_chosen 4 (some (.object "FrontDoor$Server")) :: ((wsX3_chosen_r1 ++ (wsX3_chosen_r2 ++ wsX3_chosen_r3)) ++ wsX30 ++ wsX20 ++ wsJx4a65c0)
def wsX3_settleCredits_r1 : List Cond := [Cond.fieldLink RX3 10 "FrontDoor" "servers" "Ljava/util/ArrayList;", Cond.classLink RX3 47 "FrontDoor$Server", Cond.fieldLink RX3 186 "FrontDoor$Server" "credit" "I", Cond.fieldLink RX3 189 "FrontDoor$Server" "weight" "I", Cond.methodLink RX3 43 yJx4a65c_size_8abf5, Cond.instanceMethod yJx4a65c_size_8abf5, Cond.selects RJx4a65c yJx4a65c_size_8abf5 yJx4a65c_size_8abf5, Cond.initialized RJx4a65c, Cond.code yJx4a65c_size_8abf5 cJx4a65c_size_8abf5 1 (some .int), Cond.fieldLink RJx4a65c 48 "java/util/ArrayList" "size" "I", Cond.methodLink RX3 151 yJx4a65c_get_915e3, Cond.instanceMethod yJx4a65c_get_915e3, Cond.selects RJx4a65c yJx4a65c_get_915e3 yJx4a65c_get_915e3, Cond.code yJx4a65c_get_915e3 cJx4a65c_get_915e3 2 (some (.object "java/lang/Object")), Cond.methodLink RJx4a65c 118 yJ15_checkIndex_7cf53, Cond.static yJ15_checkIndex_7cf53, Cond.initialized RJ15, Cond.code yJ15_checkIndex_7cf53 cJ15_checkIndex_7cf53 2 (some .int), Cond.methodLink RJ15 105 yJ3_checkIndex_8e157, Cond.static yJ3_checkIndex_8e157, Cond.initialized RJ3, Cond.code yJ3_checkIndex_8e157 cJ3_checkIndex_8e157 3 (some .int), Cond.methodLink RJx4a65c 123 yJx4a65c_elementData_915e3, Cond.instanceMethod yJx4a65c_elementData_915e3]
def wsX3_settleCredits_r2 : List Cond := [Cond.selects RJx4a65c yJx4a65c_elementData_915e3 yJx4a65c_elementData_915e3, Cond.code yJx4a65c_elementData_915e3 cJx4a65c_elementData_915e3 2 (some (.object "java/lang/Object")), Cond.fieldLink RJx4a65c 9 "java/util/ArrayList" "elementData" "[Ljava/lang/Object;", Cond.methodLink RX3 182 yX2_mayBeAsked, Cond.instanceMethod yX2_mayBeAsked, Cond.selects RX2 yX2_mayBeAsked yX2_mayBeAsked, Cond.initialized RX2, Cond.code yX2_mayBeAsked cX2_mayBeAsked 2 (some .boolean), Cond.fieldLink RX2 9 "FrontDoor$Server" "number" "I", Cond.fieldLink RX2 36 "FrontDoor$Server" "open" "I", Cond.fieldLink RX2 21 "FrontDoor$Server" "room" "I", Cond.fieldLink RX2 30 "FrontDoor$Server" "health" "I"]
def wsX3_settleCredits : List Cond := .code yX3_settleCredits cX3_settleCredits 6 none :: ((wsX3_settleCredits_r1 ++ wsX3_settleCredits_r2) ++ wsX30 ++ wsX20 ++ wsJx4a65c0)
def wsX3_askByRule_r1 : List Cond := [Cond.fieldLink RX3 199 "FrontDoor$Call" "key" "I", Cond.fieldLink RX3 202 "FrontDoor$Call" "tried" "I", Cond.fieldLink RX3 29 "FrontDoor" "ruleNow" "I", Cond.fieldLink RX3 95 "FrontDoor" "tick" "I", Cond.methodLink RX3 140 yX3_chosen, Cond.instanceMethod yX3_chosen, Cond.selects RX3 yX3_chosen yX3_chosen, Cond.initialized RX3, Cond.code yX3_chosen cX3_chosen 4 (some (.object "FrontDoor$Server")), Cond.methodLink RX3 173 yX3_byTurn, Cond.instanceMethod yX3_byTurn, Cond.selects RX3 yX3_byTurn yX3_byTurn, Cond.code yX3_byTurn cX3_byTurn 5 (some (.object "FrontDoor$Server")), Cond.fieldLink RX3 10 "FrontDoor" "servers" "Ljava/util/ArrayList;", Cond.classLink RX3 47 "FrontDoor$Server", Cond.fieldLink RX3 186 "FrontDoor$Server" "credit" "I", Cond.fieldLink RX3 189 "FrontDoor$Server" "weight" "I", Cond.methodLink RX3 43 yJx4a65c_size_8abf5, Cond.instanceMethod yJx4a65c_size_8abf5, Cond.selects RJx4a65c yJx4a65c_size_8abf5 yJx4a65c_size_8abf5, Cond.initialized RJx4a65c, Cond.code yJx4a65c_size_8abf5 cJx4a65c_size_8abf5 1 (some .int), Cond.fieldLink RJx4a65c 48 "java/util/ArrayList" "size" "I", Cond.methodLink RX3 151 yJx4a65c_get_915e3]
def wsX3_askByRule_r2 : List Cond := [Cond.instanceMethod yJx4a65c_get_915e3, Cond.selects RJx4a65c yJx4a65c_get_915e3 yJx4a65c_get_915e3, Cond.code yJx4a65c_get_915e3 cJx4a65c_get_915e3 2 (some (.object "java/lang/Object")), Cond.methodLink RJx4a65c 118 yJ15_checkIndex_7cf53, Cond.static yJ15_checkIndex_7cf53, Cond.initialized RJ15, Cond.code yJ15_checkIndex_7cf53 cJ15_checkIndex_7cf53 2 (some .int), Cond.methodLink RJ15 105 yJ3_checkIndex_8e157, Cond.static yJ3_checkIndex_8e157, Cond.initialized RJ3, Cond.code yJ3_checkIndex_8e157 cJ3_checkIndex_8e157 3 (some .int), Cond.methodLink RJx4a65c 123 yJx4a65c_elementData_915e3, Cond.instanceMethod yJx4a65c_elementData_915e3, Cond.selects RJx4a65c yJx4a65c_elementData_915e3 yJx4a65c_elementData_915e3, Cond.code yJx4a65c_elementData_915e3 cJx4a65c_elementData_915e3 2 (some (.object "java/lang/Object")), Cond.fieldLink RJx4a65c 9 "java/util/ArrayList" "elementData" "[Ljava/lang/Object;", Cond.methodLink RX3 182 yX2_mayBeAsked, Cond.instanceMethod yX2_mayBeAsked, Cond.selects RX2 yX2_mayBeAsked yX2_mayBeAsked, Cond.initialized RX2, Cond.code yX2_mayBeAsked cX2_mayBeAsked 2 (some .boolean), Cond.fieldLink RX2 9 "FrontDoor$Server" "number" "I", Cond.fieldLink RX2 36 "FrontDoor$Server" "open" "I", Cond.fieldLink RX2 21 "FrontDoor$Server" "room" "I"]
def wsX3_askByRule_r3 : List Cond := [Cond.fieldLink RX2 30 "FrontDoor$Server" "health" "I", Cond.methodLink RX3 176 yX3_byRing, Cond.instanceMethod yX3_byRing, Cond.selects RX3 yX3_byRing yX3_byRing, Cond.code yX3_byRing cX3_byRing 7 (some (.object "FrontDoor$Server")), Cond.constant RX3 195 (65536), Cond.methodLink RX3 196 yX2_wayFrom, Cond.instanceMethod yX2_wayFrom, Cond.selects RX2 yX2_wayFrom yX2_wayFrom, Cond.code yX2_wayFrom cX2_wayFrom 4 (some .int), Cond.constant RX2 40 (65535), Cond.methodLink RX2 45 Lib.Math.min.name, Cond.static Lib.Math.min.name, Cond.initialized "java/lang/Math", Cond.code Lib.Math.min.name Lib.Math.min.code 2 (some .int), Cond.methodLink RX2 41 yX2_placeOfMark, Cond.instanceMethod yX2_placeOfMark, Cond.selects RX2 yX2_placeOfMark yX2_placeOfMark, Cond.code yX2_placeOfMark cX2_placeOfMark 2 (some .int), Cond.constant RX2 39 (40503), Cond.methodLink RX3 179 yX3_byFewest, Cond.instanceMethod yX3_byFewest, Cond.selects RX3 yX3_byFewest yX3_byFewest, Cond.code yX3_byFewest cX3_byFewest 7 (some (.object "FrontDoor$Server"))]
def wsX3_askByRule_r4 : List Cond := [Cond.fieldLink RX3 192 "FrontDoor$Server" "zone" "I", Cond.fieldLink RX3 80 "FrontDoor$Server" "open" "I", Cond.methodLink RX3 205 yX3_settleCredits, Cond.instanceMethod yX3_settleCredits, Cond.selects RX3 yX3_settleCredits yX3_settleCredits, Cond.code yX3_settleCredits cX3_settleCredits 6 none, Cond.methodLink RX3 209 yX2_takeAsking, Cond.instanceMethod yX2_takeAsking, Cond.selects RX2 yX2_takeAsking yX2_takeAsking, Cond.code yX2_takeAsking cX2_takeAsking 4 (some (.object "FrontDoor$Asking")), Cond.fieldLink RX2 51 "FrontDoor$Server" "asked" "I", Cond.fieldLink RX2 54 "FrontDoor$Server" "mute" "I", Cond.fieldLink RX2 24 "FrontDoor$Server" "pace" "I", Cond.fieldLink RX2 27 "FrontDoor$Server" "breaks" "I", Cond.classLink RX2 57 RX0, Cond.instantiable RX0 4, Cond.initialized RX0, Cond.methodLink RX2 59 yX0_init, Cond.instanceMethod yX0_init, Cond.code yX0_init cX0_init 5 none, Cond.methodLink RX0 1 objectInit, Cond.instanceMethod objectInit, Cond.code objectInit ⟨#[0xb1]⟩ 1 none, Cond.fieldLink RX0 7 "FrontDoor$Asking" "server" "LFrontDoor$Server;"]
def wsX3_askByRule_r5 : List Cond := [Cond.fieldLink RX0 13 "FrontDoor$Asking" "since" "I", Cond.fieldLink RX0 17 "FrontDoor$Asking" "over" "I", Cond.fieldLink RX0 20 "FrontDoor$Asking" "fails" "Z", Cond.methodLink RX3 213 yX1_begin, Cond.instanceMethod yX1_begin, Cond.selects RX1 yX1_begin yX1_begin, Cond.initialized RX1, Cond.code yX1_begin cX1_begin 2 none, Cond.fieldLink RX1 40 "FrontDoor$Call" "first" "LFrontDoor$Asking;", Cond.fieldLink RX1 44 "FrontDoor$Call" "second" "LFrontDoor$Asking;", Cond.fieldLink RX1 47 "FrontDoor$Call" "tried" "I", Cond.fieldLink RX1 50 "FrontDoor$Asking" "server" "LFrontDoor$Server;", Cond.fieldLink RX1 56 "FrontDoor$Server" "number" "I", Cond.fieldLink RX1 31 "FrontDoor$Call" "state" "I"]
def wsX3_askByRule : List Cond := .code yX3_askByRule cX3_askByRule 3 (some .boolean) :: ((wsX3_askByRule_r1 ++ (wsX3_askByRule_r2 ++ (wsX3_askByRule_r3 ++ (wsX3_askByRule_r4 ++ wsX3_askByRule_r5)))) ++ wsX10 ++ wsX30 ++ wsX20 ++ wsJx4a65c0 ++ wsX00)
def wsJx4a65c_rangeCheckForAdd_d00df : List Cond := .code yJx4a65c_rangeCheckForAdd_d00df cJx4a65c_rangeCheckForAdd_d00df 2 none :: ([.fieldLink RJx4a65c 48 "java/util/ArrayList" "size" "I"] ++ wsJx4a65c0)
def wsJx4a65c_add_7a177_r1 : List Cond := [Cond.fieldLink RJx4a65c 63 "java/util/ArrayList" "modCount" "I", Cond.sameField "java/util/ArrayList" "java/util/AbstractList" "modCount" "I", Cond.fieldLink RJx4a65c 48 "java/util/ArrayList" "size" "I", Cond.fieldLink RJx4a65c 9 "java/util/ArrayList" "elementData" "[Ljava/lang/Object;", Cond.methodLink RJx4a65c 112 arraycopyName, Cond.native arraycopyName, Cond.static arraycopyName, Cond.initialized "java/lang/System", Cond.methodLink RJx4a65c 135 yJx4a65c_rangeCheckForAdd_d00df, Cond.instanceMethod yJx4a65c_rangeCheckForAdd_d00df, Cond.selects RJx4a65c yJx4a65c_rangeCheckForAdd_d00df yJx4a65c_rangeCheckForAdd_d00df, Cond.initialized RJx4a65c, Cond.code yJx4a65c_rangeCheckForAdd_d00df cJx4a65c_rangeCheckForAdd_d00df 2 none, Cond.methodLink RJx4a65c 129 yJx4a65c_grow_d5877, Cond.instanceMethod yJx4a65c_grow_d5877, Cond.selects RJx4a65c yJx4a65c_grow_d5877 yJx4a65c_grow_d5877, Cond.code yJx4a65c_grow_d5877 cJx4a65c_grow_d5877 1 (some (.array (.object "java/lang/Object"))), Cond.methodLink RJx4a65c 69 yJx4a65c_grow_92f84, Cond.instanceMethod yJx4a65c_grow_92f84, Cond.selects RJx4a65c yJx4a65c_grow_92f84 yJx4a65c_grow_92f84, Cond.code yJx4a65c_grow_92f84 cJx4a65c_grow_92f84 4 (some (.array (.object "java/lang/Object"))), Cond.fieldLink RJx4a65c 39 "java/util/ArrayList" "DEFAULTCAPACITY_EMPTY_ELEMENTDATA" "[Ljava/lang/Object;", Cond.methodLink RJx4a65c 79 Lib.Math.max.name, Cond.static Lib.Math.max.name]
def wsJx4a65c_add_7a177_r2 : List Cond := [Cond.initialized "java/lang/Math", Cond.code Lib.Math.max.name Lib.Math.max.code 2 (some .int), Cond.classLink RJx4a65c 7 "java/lang/Object", Cond.methodLink RJx4a65c 73 yJ8_newLength_cabcc, Cond.static yJ8_newLength_cabcc, Cond.initialized RJ8, Cond.code yJ8_newLength_cabcc cJ8_newLength_cabcc 4 (some .int), Cond.methodLink RJ8 194 Lib.Math.max.name, Cond.constant RJ8 200 (2147483639), Cond.methodLink RJ8 201 yJ8_hugeLength_7cf53, Cond.static yJ8_hugeLength_7cf53, Cond.code yJ8_hugeLength_7cf53 cJ8_hugeLength_7cf53 3 (some .int), Cond.methodLink RJx4a65c 66 yJ7_copyOf_1904c, Cond.static yJ7_copyOf_1904c, Cond.initialized RJ7, Cond.code yJ7_copyOf_1904c cJ7_copyOf_1904c 2 (some (.array (.object "java/lang/Object"))), Cond.methodLink RJ7 86 ⟨"java/lang/Object", "getClass", "()Ljava/lang/Class;"⟩, Cond.selects "[Ljava/lang/Object;" ⟨"java/lang/Object", "getClass", "()Ljava/lang/Class;"⟩ ⟨"java/lang/Object", "getClass", "()Ljava/lang/Class;"⟩, Cond.instanceMethod ⟨"java/lang/Object", "getClass", "()Ljava/lang/Class;"⟩, Cond.native ⟨"java/lang/Object", "getClass", "()Ljava/lang/Class;"⟩, Cond.methodLink RJ7 300 yJ7_copyOf_6403c, Cond.static yJ7_copyOf_6403c, Cond.code yJ7_copyOf_6403c cJ7_copyOf_6403c 4 (some (.array (.object "java/lang/Object"))), Cond.classLink RJ7 110 "[Ljava/lang/Object;"]
def wsJx4a65c_add_7a177_r3 : List Cond := [Cond.classLink RJ7 2 "java/lang/Object", Cond.methodLink RJ7 304 Lib.Math.min.name, Cond.static Lib.Math.min.name, Cond.code Lib.Math.min.name Lib.Math.min.code 2 (some .int), Cond.methodLink RJ7 150 arraycopyName]
def wsJx4a65c_add_7a177 : List Cond := .code yJx4a65c_add_7a177 cJx4a65c_add_7a177 5 none :: ((wsJx4a65c_add_7a177_r1 ++ (wsJx4a65c_add_7a177_r2 ++ wsJx4a65c_add_7a177_r3)) ++ wsJx4a65c0)
def wsX3_joinLine_r1 : List Cond := [Cond.fieldLink RX3 118 "FrontDoor$Call" "state" "I", Cond.fieldLink RX3 22 "FrontDoor" "line" "Ljava/util/ArrayList;", Cond.classLink RX3 93 "FrontDoor$Call", Cond.methodLink RX3 43 yJx4a65c_size_8abf5, Cond.instanceMethod yJx4a65c_size_8abf5, Cond.selects RJx4a65c yJx4a65c_size_8abf5 yJx4a65c_size_8abf5, Cond.initialized RJx4a65c, Cond.code yJx4a65c_size_8abf5 cJx4a65c_size_8abf5 1 (some .int), Cond.fieldLink RJx4a65c 48 "java/util/ArrayList" "size" "I", Cond.methodLink RX3 151 yJx4a65c_get_915e3, Cond.instanceMethod yJx4a65c_get_915e3, Cond.selects RJx4a65c yJx4a65c_get_915e3 yJx4a65c_get_915e3, Cond.code yJx4a65c_get_915e3 cJx4a65c_get_915e3 2 (some (.object "java/lang/Object")), Cond.methodLink RJx4a65c 118 yJ15_checkIndex_7cf53, Cond.static yJ15_checkIndex_7cf53, Cond.initialized RJ15, Cond.code yJ15_checkIndex_7cf53 cJ15_checkIndex_7cf53 2 (some .int), Cond.methodLink RJ15 105 yJ3_checkIndex_8e157, Cond.static yJ3_checkIndex_8e157, Cond.initialized RJ3, Cond.code yJ3_checkIndex_8e157 cJ3_checkIndex_8e157 3 (some .int), Cond.methodLink RJx4a65c 123 yJx4a65c_elementData_915e3, Cond.instanceMethod yJx4a65c_elementData_915e3, Cond.selects RJx4a65c yJx4a65c_elementData_915e3 yJx4a65c_elementData_915e3]
def wsX3_joinLine_r2 : List Cond := [Cond.code yJx4a65c_elementData_915e3 cJx4a65c_elementData_915e3 2 (some (.object "java/lang/Object")), Cond.fieldLink RJx4a65c 9 "java/util/ArrayList" "elementData" "[Ljava/lang/Object;", Cond.methodLink RX3 217 yX1_goesAheadOf, Cond.instanceMethod yX1_goesAheadOf, Cond.selects RX1 yX1_goesAheadOf yX1_goesAheadOf, Cond.initialized RX1, Cond.code yX1_goesAheadOf cX1_goesAheadOf 2 (some .boolean), Cond.fieldLink RX1 18 "FrontDoor$Call" "grade" "I", Cond.fieldLink RX1 24 "FrontDoor$Call" "due" "I", Cond.fieldLink RX1 9 "FrontDoor$Call" "number" "I", Cond.methodLink RX3 220 yJx4a65c_add_7a177, Cond.instanceMethod yJx4a65c_add_7a177, Cond.selects RJx4a65c yJx4a65c_add_7a177 yJx4a65c_add_7a177, Cond.code yJx4a65c_add_7a177 cJx4a65c_add_7a177 5 none, Cond.fieldLink RJx4a65c 63 "java/util/ArrayList" "modCount" "I", Cond.sameField "java/util/ArrayList" "java/util/AbstractList" "modCount" "I", Cond.methodLink RJx4a65c 112 arraycopyName, Cond.native arraycopyName, Cond.static arraycopyName, Cond.initialized "java/lang/System", Cond.methodLink RJx4a65c 135 yJx4a65c_rangeCheckForAdd_d00df, Cond.instanceMethod yJx4a65c_rangeCheckForAdd_d00df, Cond.selects RJx4a65c yJx4a65c_rangeCheckForAdd_d00df yJx4a65c_rangeCheckForAdd_d00df, Cond.code yJx4a65c_rangeCheckForAdd_d00df cJx4a65c_rangeCheckForAdd_d00df 2 none]
def wsX3_joinLine_r3 : List Cond := [Cond.methodLink RJx4a65c 129 yJx4a65c_grow_d5877, Cond.instanceMethod yJx4a65c_grow_d5877, Cond.selects RJx4a65c yJx4a65c_grow_d5877 yJx4a65c_grow_d5877, Cond.code yJx4a65c_grow_d5877 cJx4a65c_grow_d5877 1 (some (.array (.object "java/lang/Object"))), Cond.methodLink RJx4a65c 69 yJx4a65c_grow_92f84, Cond.instanceMethod yJx4a65c_grow_92f84, Cond.selects RJx4a65c yJx4a65c_grow_92f84 yJx4a65c_grow_92f84, Cond.code yJx4a65c_grow_92f84 cJx4a65c_grow_92f84 4 (some (.array (.object "java/lang/Object"))), Cond.fieldLink RJx4a65c 39 "java/util/ArrayList" "DEFAULTCAPACITY_EMPTY_ELEMENTDATA" "[Ljava/lang/Object;", Cond.methodLink RJx4a65c 79 Lib.Math.max.name, Cond.static Lib.Math.max.name, Cond.initialized "java/lang/Math", Cond.code Lib.Math.max.name Lib.Math.max.code 2 (some .int), Cond.classLink RJx4a65c 7 "java/lang/Object", Cond.methodLink RJx4a65c 73 yJ8_newLength_cabcc, Cond.static yJ8_newLength_cabcc, Cond.initialized RJ8, Cond.code yJ8_newLength_cabcc cJ8_newLength_cabcc 4 (some .int), Cond.methodLink RJ8 194 Lib.Math.max.name, Cond.constant RJ8 200 (2147483639), Cond.methodLink RJ8 201 yJ8_hugeLength_7cf53, Cond.static yJ8_hugeLength_7cf53, Cond.code yJ8_hugeLength_7cf53 cJ8_hugeLength_7cf53 3 (some .int), Cond.methodLink RJx4a65c 66 yJ7_copyOf_1904c]
def wsX3_joinLine_r4 : List Cond := [Cond.static yJ7_copyOf_1904c, Cond.initialized RJ7, Cond.code yJ7_copyOf_1904c cJ7_copyOf_1904c 2 (some (.array (.object "java/lang/Object"))), Cond.methodLink RJ7 86 ⟨"java/lang/Object", "getClass", "()Ljava/lang/Class;"⟩, Cond.selects "[Ljava/lang/Object;" ⟨"java/lang/Object", "getClass", "()Ljava/lang/Class;"⟩ ⟨"java/lang/Object", "getClass", "()Ljava/lang/Class;"⟩, Cond.instanceMethod ⟨"java/lang/Object", "getClass", "()Ljava/lang/Class;"⟩, Cond.native ⟨"java/lang/Object", "getClass", "()Ljava/lang/Class;"⟩, Cond.methodLink RJ7 300 yJ7_copyOf_6403c, Cond.static yJ7_copyOf_6403c, Cond.code yJ7_copyOf_6403c cJ7_copyOf_6403c 4 (some (.array (.object "java/lang/Object"))), Cond.classLink RJ7 110 "[Ljava/lang/Object;", Cond.classLink RJ7 2 "java/lang/Object", Cond.methodLink RJ7 304 Lib.Math.min.name, Cond.static Lib.Math.min.name, Cond.code Lib.Math.min.name Lib.Math.min.code 2 (some .int), Cond.methodLink RJ7 150 arraycopyName]
def wsX3_joinLine : List Cond := .code yX3_joinLine cX3_joinLine 3 none :: ((wsX3_joinLine_r1 ++ (wsX3_joinLine_r2 ++ (wsX3_joinLine_r3 ++ wsX3_joinLine_r4))) ++ wsX10 ++ wsX30 ++ wsJx4a65c0)
def wsX3_call_r1 : List Cond := [Cond.constant RX3 92 (65535), Cond.fieldLink RX3 16 "FrontDoor" "calls" "Ljava/util/ArrayList;", Cond.classLink RX3 93 RX1, Cond.instantiable RX1 12, Cond.initialized RX1, Cond.fieldLink RX3 95 "FrontDoor" "tick" "I", Cond.fieldLink RX3 19 "FrontDoor" "live" "Ljava/util/ArrayList;", Cond.fieldLink RX3 109 "FrontDoor$Call" "number" "I", Cond.methodLink RX3 39 yX3_refuse, Cond.instanceMethod yX3_refuse, Cond.selects RX3 yX3_refuse yX3_refuse, Cond.initialized RX3, Cond.code yX3_refuse cX3_refuse 3 (some .int), Cond.fieldLink RX3 25 "FrontDoor" "refusals" "[I", Cond.methodLink RX3 43 yJx4a65c_size_8abf5, Cond.instanceMethod yJx4a65c_size_8abf5, Cond.selects RJx4a65c yJx4a65c_size_8abf5 yJx4a65c_size_8abf5, Cond.initialized RJx4a65c, Cond.code yJx4a65c_size_8abf5 cJx4a65c_size_8abf5 1 (some .int), Cond.fieldLink RJx4a65c 48 "java/util/ArrayList" "size" "I", Cond.methodLink RX3 98 yX1_init, Cond.instanceMethod yX1_init, Cond.code yX1_init cX1_init 7 none, Cond.methodLink RX1 3 objectInit]
def wsX3_call_r2 : List Cond := [Cond.instanceMethod objectInit, Cond.code objectInit ⟨#[0xb1]⟩ 1 none, Cond.fieldLink RX1 9 "FrontDoor$Call" "number" "I", Cond.fieldLink RX1 15 "FrontDoor$Call" "key" "I", Cond.fieldLink RX1 18 "FrontDoor$Call" "grade" "I", Cond.fieldLink RX1 21 "FrontDoor$Call" "came" "I", Cond.fieldLink RX1 24 "FrontDoor$Call" "due" "I", Cond.fieldLink RX1 27 "FrontDoor$Call" "safe" "Z", Cond.fieldLink RX1 31 "FrontDoor$Call" "state" "I", Cond.fieldLink RX1 34 "FrontDoor$Call" "ended" "I", Cond.fieldLink RX1 37 "FrontDoor$Call" "answerer" "I", Cond.methodLink RX3 52 yJx4a65c_add_9ea2d, Cond.instanceMethod yJx4a65c_add_9ea2d, Cond.selects RJx4a65c yJx4a65c_add_9ea2d yJx4a65c_add_9ea2d, Cond.code yJx4a65c_add_9ea2d cJx4a65c_add_9ea2d 2 (some .boolean), Cond.fieldLink RJx4a65c 63 "java/util/ArrayList" "modCount" "I", Cond.sameField "java/util/ArrayList" "java/util/AbstractList" "modCount" "I", Cond.fieldLink RJx4a65c 9 "java/util/ArrayList" "elementData" "[Ljava/lang/Object;", Cond.methodLink RJx4a65c 131 yJx4a65c_add_72be8, Cond.instanceMethod yJx4a65c_add_72be8, Cond.selects RJx4a65c yJx4a65c_add_72be8 yJx4a65c_add_72be8, Cond.code yJx4a65c_add_72be8 cJx4a65c_add_72be8 4 none, Cond.methodLink RJx4a65c 129 yJx4a65c_grow_d5877, Cond.instanceMethod yJx4a65c_grow_d5877]
def wsX3_call_r3 : List Cond := [Cond.selects RJx4a65c yJx4a65c_grow_d5877 yJx4a65c_grow_d5877, Cond.code yJx4a65c_grow_d5877 cJx4a65c_grow_d5877 1 (some (.array (.object "java/lang/Object"))), Cond.methodLink RJx4a65c 69 yJx4a65c_grow_92f84, Cond.instanceMethod yJx4a65c_grow_92f84, Cond.selects RJx4a65c yJx4a65c_grow_92f84 yJx4a65c_grow_92f84, Cond.code yJx4a65c_grow_92f84 cJx4a65c_grow_92f84 4 (some (.array (.object "java/lang/Object"))), Cond.fieldLink RJx4a65c 39 "java/util/ArrayList" "DEFAULTCAPACITY_EMPTY_ELEMENTDATA" "[Ljava/lang/Object;", Cond.methodLink RJx4a65c 79 Lib.Math.max.name, Cond.static Lib.Math.max.name, Cond.initialized "java/lang/Math", Cond.code Lib.Math.max.name Lib.Math.max.code 2 (some .int), Cond.classLink RJx4a65c 7 "java/lang/Object", Cond.methodLink RJx4a65c 73 yJ8_newLength_cabcc, Cond.static yJ8_newLength_cabcc, Cond.initialized RJ8, Cond.code yJ8_newLength_cabcc cJ8_newLength_cabcc 4 (some .int), Cond.methodLink RJ8 194 Lib.Math.max.name, Cond.constant RJ8 200 (2147483639), Cond.methodLink RJ8 201 yJ8_hugeLength_7cf53, Cond.static yJ8_hugeLength_7cf53, Cond.code yJ8_hugeLength_7cf53 cJ8_hugeLength_7cf53 3 (some .int), Cond.methodLink RJx4a65c 66 yJ7_copyOf_1904c, Cond.static yJ7_copyOf_1904c, Cond.initialized RJ7]
def wsX3_call_r4 : List Cond := [Cond.code yJ7_copyOf_1904c cJ7_copyOf_1904c 2 (some (.array (.object "java/lang/Object"))), Cond.methodLink RJ7 86 ⟨"java/lang/Object", "getClass", "()Ljava/lang/Class;"⟩, Cond.selects "[Ljava/lang/Object;" ⟨"java/lang/Object", "getClass", "()Ljava/lang/Class;"⟩ ⟨"java/lang/Object", "getClass", "()Ljava/lang/Class;"⟩, Cond.instanceMethod ⟨"java/lang/Object", "getClass", "()Ljava/lang/Class;"⟩, Cond.native ⟨"java/lang/Object", "getClass", "()Ljava/lang/Class;"⟩, Cond.methodLink RJ7 300 yJ7_copyOf_6403c, Cond.static yJ7_copyOf_6403c, Cond.code yJ7_copyOf_6403c cJ7_copyOf_6403c 4 (some (.array (.object "java/lang/Object"))), Cond.classLink RJ7 110 "[Ljava/lang/Object;", Cond.classLink RJ7 2 "java/lang/Object", Cond.methodLink RJ7 304 Lib.Math.min.name, Cond.static Lib.Math.min.name, Cond.code Lib.Math.min.name Lib.Math.min.code 2 (some .int), Cond.methodLink RJ7 150 arraycopyName, Cond.native arraycopyName, Cond.static arraycopyName, Cond.initialized "java/lang/System", Cond.methodLink RX3 101 yX3_askByRule, Cond.instanceMethod yX3_askByRule, Cond.selects RX3 yX3_askByRule yX3_askByRule, Cond.code yX3_askByRule cX3_askByRule 3 (some .boolean), Cond.fieldLink RX3 199 "FrontDoor$Call" "key" "I", Cond.fieldLink RX3 202 "FrontDoor$Call" "tried" "I", Cond.fieldLink RX3 29 "FrontDoor" "ruleNow" "I"]
def wsX3_call_r5 : List Cond := [Cond.methodLink RX3 140 yX3_chosen, Cond.instanceMethod yX3_chosen, Cond.selects RX3 yX3_chosen yX3_chosen, Cond.code yX3_chosen cX3_chosen 4 (some (.object "FrontDoor$Server")), Cond.methodLink RX3 173 yX3_byTurn, Cond.instanceMethod yX3_byTurn, Cond.selects RX3 yX3_byTurn yX3_byTurn, Cond.code yX3_byTurn cX3_byTurn 5 (some (.object "FrontDoor$Server")), Cond.fieldLink RX3 10 "FrontDoor" "servers" "Ljava/util/ArrayList;", Cond.classLink RX3 47 "FrontDoor$Server", Cond.fieldLink RX3 186 "FrontDoor$Server" "credit" "I", Cond.fieldLink RX3 189 "FrontDoor$Server" "weight" "I", Cond.methodLink RX3 151 yJx4a65c_get_915e3, Cond.instanceMethod yJx4a65c_get_915e3, Cond.selects RJx4a65c yJx4a65c_get_915e3 yJx4a65c_get_915e3, Cond.code yJx4a65c_get_915e3 cJx4a65c_get_915e3 2 (some (.object "java/lang/Object")), Cond.methodLink RJx4a65c 118 yJ15_checkIndex_7cf53, Cond.static yJ15_checkIndex_7cf53, Cond.initialized RJ15, Cond.code yJ15_checkIndex_7cf53 cJ15_checkIndex_7cf53 2 (some .int), Cond.methodLink RJ15 105 yJ3_checkIndex_8e157, Cond.static yJ3_checkIndex_8e157, Cond.initialized RJ3, Cond.code yJ3_checkIndex_8e157 cJ3_checkIndex_8e157 3 (some .int)]
def wsX3_call_r6 : List Cond := [Cond.methodLink RJx4a65c 123 yJx4a65c_elementData_915e3, Cond.instanceMethod yJx4a65c_elementData_915e3, Cond.selects RJx4a65c yJx4a65c_elementData_915e3 yJx4a65c_elementData_915e3, Cond.code yJx4a65c_elementData_915e3 cJx4a65c_elementData_915e3 2 (some (.object "java/lang/Object")), Cond.methodLink RX3 182 yX2_mayBeAsked, Cond.instanceMethod yX2_mayBeAsked, Cond.selects RX2 yX2_mayBeAsked yX2_mayBeAsked, Cond.initialized RX2, Cond.code yX2_mayBeAsked cX2_mayBeAsked 2 (some .boolean), Cond.fieldLink RX2 9 "FrontDoor$Server" "number" "I", Cond.fieldLink RX2 36 "FrontDoor$Server" "open" "I", Cond.fieldLink RX2 21 "FrontDoor$Server" "room" "I", Cond.fieldLink RX2 30 "FrontDoor$Server" "health" "I", Cond.methodLink RX3 176 yX3_byRing, Cond.instanceMethod yX3_byRing, Cond.selects RX3 yX3_byRing yX3_byRing, Cond.code yX3_byRing cX3_byRing 7 (some (.object "FrontDoor$Server")), Cond.constant RX3 195 (65536), Cond.methodLink RX3 196 yX2_wayFrom, Cond.instanceMethod yX2_wayFrom, Cond.selects RX2 yX2_wayFrom yX2_wayFrom, Cond.code yX2_wayFrom cX2_wayFrom 4 (some .int), Cond.constant RX2 40 (65535), Cond.methodLink RX2 45 Lib.Math.min.name]
def wsX3_call_r7 : List Cond := [Cond.methodLink RX2 41 yX2_placeOfMark, Cond.instanceMethod yX2_placeOfMark, Cond.selects RX2 yX2_placeOfMark yX2_placeOfMark, Cond.code yX2_placeOfMark cX2_placeOfMark 2 (some .int), Cond.constant RX2 39 (40503), Cond.methodLink RX3 179 yX3_byFewest, Cond.instanceMethod yX3_byFewest, Cond.selects RX3 yX3_byFewest yX3_byFewest, Cond.code yX3_byFewest cX3_byFewest 7 (some (.object "FrontDoor$Server")), Cond.fieldLink RX3 192 "FrontDoor$Server" "zone" "I", Cond.fieldLink RX3 80 "FrontDoor$Server" "open" "I", Cond.methodLink RX3 205 yX3_settleCredits, Cond.instanceMethod yX3_settleCredits, Cond.selects RX3 yX3_settleCredits yX3_settleCredits, Cond.code yX3_settleCredits cX3_settleCredits 6 none, Cond.methodLink RX3 209 yX2_takeAsking, Cond.instanceMethod yX2_takeAsking, Cond.selects RX2 yX2_takeAsking yX2_takeAsking, Cond.code yX2_takeAsking cX2_takeAsking 4 (some (.object "FrontDoor$Asking")), Cond.fieldLink RX2 51 "FrontDoor$Server" "asked" "I", Cond.fieldLink RX2 54 "FrontDoor$Server" "mute" "I", Cond.fieldLink RX2 24 "FrontDoor$Server" "pace" "I", Cond.fieldLink RX2 27 "FrontDoor$Server" "breaks" "I", Cond.classLink RX2 57 RX0]
def wsX3_call_r8 : List Cond := [Cond.instantiable RX0 4, Cond.initialized RX0, Cond.methodLink RX2 59 yX0_init, Cond.instanceMethod yX0_init, Cond.code yX0_init cX0_init 5 none, Cond.methodLink RX0 1 objectInit, Cond.fieldLink RX0 7 "FrontDoor$Asking" "server" "LFrontDoor$Server;", Cond.fieldLink RX0 13 "FrontDoor$Asking" "since" "I", Cond.fieldLink RX0 17 "FrontDoor$Asking" "over" "I", Cond.fieldLink RX0 20 "FrontDoor$Asking" "fails" "Z", Cond.methodLink RX3 213 yX1_begin, Cond.instanceMethod yX1_begin, Cond.selects RX1 yX1_begin yX1_begin, Cond.code yX1_begin cX1_begin 2 none, Cond.fieldLink RX1 40 "FrontDoor$Call" "first" "LFrontDoor$Asking;", Cond.fieldLink RX1 44 "FrontDoor$Call" "second" "LFrontDoor$Asking;", Cond.fieldLink RX1 47 "FrontDoor$Call" "tried" "I", Cond.fieldLink RX1 50 "FrontDoor$Asking" "server" "LFrontDoor$Server;", Cond.fieldLink RX1 56 "FrontDoor$Server" "number" "I", Cond.methodLink RX3 105 yX3_joinLine, Cond.instanceMethod yX3_joinLine, Cond.selects RX3 yX3_joinLine yX3_joinLine, Cond.code yX3_joinLine cX3_joinLine 3 none, Cond.fieldLink RX3 118 "FrontDoor$Call" "state" "I"]
def wsX3_call_r9 : List Cond := [Cond.fieldLink RX3 22 "FrontDoor" "line" "Ljava/util/ArrayList;", Cond.classLink RX3 93 "FrontDoor$Call", Cond.methodLink RX3 217 yX1_goesAheadOf, Cond.instanceMethod yX1_goesAheadOf, Cond.selects RX1 yX1_goesAheadOf yX1_goesAheadOf, Cond.code yX1_goesAheadOf cX1_goesAheadOf 2 (some .boolean), Cond.methodLink RX3 220 yJx4a65c_add_7a177, Cond.instanceMethod yJx4a65c_add_7a177, Cond.selects RJx4a65c yJx4a65c_add_7a177 yJx4a65c_add_7a177, Cond.code yJx4a65c_add_7a177 cJx4a65c_add_7a177 5 none, Cond.methodLink RJx4a65c 112 arraycopyName, Cond.methodLink RJx4a65c 135 yJx4a65c_rangeCheckForAdd_d00df, Cond.instanceMethod yJx4a65c_rangeCheckForAdd_d00df, Cond.selects RJx4a65c yJx4a65c_rangeCheckForAdd_d00df yJx4a65c_rangeCheckForAdd_d00df, Cond.code yJx4a65c_rangeCheckForAdd_d00df cJx4a65c_rangeCheckForAdd_d00df 2 none]
def wsX3_call : List Cond := .code yX3_call cX3_call 6 (some .int) :: ((wsX3_call_r1 ++ (wsX3_call_r2 ++ (wsX3_call_r3 ++ (wsX3_call_r4 ++ (wsX3_call_r5 ++ (wsX3_call_r6 ++ (wsX3_call_r7 ++ (wsX3_call_r8 ++ wsX3_call_r9)))))))) ++ wsX30 ++ wsX10 ++ wsJx4a65c0 ++ wsX20 ++ wsX00)
def wsX3_callAt_r1 : List Cond := [Cond.fieldLink RX3 16 "FrontDoor" "calls" "Ljava/util/ArrayList;", Cond.classLink RX3 93 "FrontDoor$Call", Cond.methodLink RX3 43 yJx4a65c_size_8abf5, Cond.instanceMethod yJx4a65c_size_8abf5, Cond.selects RJx4a65c yJx4a65c_size_8abf5 yJx4a65c_size_8abf5, Cond.initialized RJx4a65c, Cond.code yJx4a65c_size_8abf5 cJx4a65c_size_8abf5 1 (some .int), Cond.fieldLink RJx4a65c 48 "java/util/ArrayList" "size" "I", Cond.methodLink RX3 151 yJx4a65c_get_915e3, Cond.instanceMethod yJx4a65c_get_915e3, Cond.selects RJx4a65c yJx4a65c_get_915e3 yJx4a65c_get_915e3, Cond.code yJx4a65c_get_915e3 cJx4a65c_get_915e3 2 (some (.object "java/lang/Object")), Cond.methodLink RJx4a65c 118 yJ15_checkIndex_7cf53, Cond.static yJ15_checkIndex_7cf53, Cond.initialized RJ15, Cond.code yJ15_checkIndex_7cf53 cJ15_checkIndex_7cf53 2 (some .int), Cond.methodLink RJ15 105 yJ3_checkIndex_8e157, Cond.static yJ3_checkIndex_8e157, Cond.initialized RJ3, Cond.code yJ3_checkIndex_8e157 cJ3_checkIndex_8e157 3 (some .int), Cond.methodLink RJx4a65c 123 yJx4a65c_elementData_915e3, Cond.instanceMethod yJx4a65c_elementData_915e3, Cond.selects RJx4a65c yJx4a65c_elementData_915e3 yJx4a65c_elementData_915e3, Cond.code yJx4a65c_elementData_915e3 cJx4a65c_elementData_915e3 2 (some (.object "java/lang/Object"))]
def wsX3_callAt_r2 : List Cond := [Cond.fieldLink RJx4a65c 9 "java/util/ArrayList" "elementData" "[Ljava/lang/Object;"]
def wsX3_callAt : List Cond := .code yX3_callAt cX3_callAt 2 (some (.object "FrontDoor$Call")) :: ((wsX3_callAt_r1 ++ wsX3_callAt_r2) ++ wsX30 ++ wsJx4a65c0)
def wsJx4a65c_fastRemove_b59b0 : List Cond := .code yJx4a65c_fastRemove_b59b0 cJx4a65c_fastRemove_b59b0 4 none :: ([.fieldLink RJx4a65c 63 "java/util/ArrayList" "modCount" "I", .sameField "java/util/ArrayList" "java/util/AbstractList" "modCount" "I", .fieldLink RJx4a65c 48 "java/util/ArrayList" "size" "I", .methodLink RJx4a65c 112 arraycopyName, .native arraycopyName, .static arraycopyName, .initialized "java/lang/System"] ++ wsJx4a65c0)
def wsJx4a65c_remove_915e3 : List Cond := .code yJx4a65c_remove_915e3 cJx4a65c_remove_915e3 4 (some (.object "java/lang/Object")) :: ([.fieldLink RJx4a65c 48 "java/util/ArrayList" "size" "I", .fieldLink RJx4a65c 9 "java/util/ArrayList" "elementData" "[Ljava/lang/Object;", .methodLink RJx4a65c 118 yJ15_checkIndex_7cf53, .static yJ15_checkIndex_7cf53, .initialized RJ15, .code yJ15_checkIndex_7cf53 cJ15_checkIndex_7cf53 2 (some .int), .methodLink RJ15 105 yJ3_checkIndex_8e157, .static yJ3_checkIndex_8e157, .initialized RJ3, .code yJ3_checkIndex_8e157 cJ3_checkIndex_8e157 3 (some .int), .methodLink RJx4a65c 144 yJx4a65c_fastRemove_b59b0, .instanceMethod yJx4a65c_fastRemove_b59b0, .selects RJx4a65c yJx4a65c_fastRemove_b59b0 yJx4a65c_fastRemove_b59b0, .initialized RJx4a65c, .code yJx4a65c_fastRemove_b59b0 cJx4a65c_fastRemove_b59b0 4 none, .fieldLink RJx4a65c 63 "java/util/ArrayList" "modCount" "I", .sameField "java/util/ArrayList" "java/util/AbstractList" "modCount" "I", .methodLink RJx4a65c 112 arraycopyName, .native arraycopyName, .static arraycopyName, .initialized "java/lang/System"] ++ wsJx4a65c0)
def wsX3_leaveLine_r1 : List Cond := [Cond.fieldLink RX3 22 "FrontDoor" "line" "Ljava/util/ArrayList;", Cond.classLink RX3 93 "FrontDoor$Call", Cond.fieldLink RX3 109 "FrontDoor$Call" "number" "I", Cond.methodLink RX3 43 yJx4a65c_size_8abf5, Cond.instanceMethod yJx4a65c_size_8abf5, Cond.selects RJx4a65c yJx4a65c_size_8abf5 yJx4a65c_size_8abf5, Cond.initialized RJx4a65c, Cond.code yJx4a65c_size_8abf5 cJx4a65c_size_8abf5 1 (some .int), Cond.fieldLink RJx4a65c 48 "java/util/ArrayList" "size" "I", Cond.methodLink RX3 151 yJx4a65c_get_915e3, Cond.instanceMethod yJx4a65c_get_915e3, Cond.selects RJx4a65c yJx4a65c_get_915e3 yJx4a65c_get_915e3, Cond.code yJx4a65c_get_915e3 cJx4a65c_get_915e3 2 (some (.object "java/lang/Object")), Cond.methodLink RJx4a65c 118 yJ15_checkIndex_7cf53, Cond.static yJ15_checkIndex_7cf53, Cond.initialized RJ15, Cond.code yJ15_checkIndex_7cf53 cJ15_checkIndex_7cf53 2 (some .int), Cond.methodLink RJ15 105 yJ3_checkIndex_8e157, Cond.static yJ3_checkIndex_8e157, Cond.initialized RJ3, Cond.code yJ3_checkIndex_8e157 cJ3_checkIndex_8e157 3 (some .int), Cond.methodLink RJx4a65c 123 yJx4a65c_elementData_915e3, Cond.instanceMethod yJx4a65c_elementData_915e3, Cond.selects RJx4a65c yJx4a65c_elementData_915e3 yJx4a65c_elementData_915e3]
def wsX3_leaveLine_r2 : List Cond := [Cond.code yJx4a65c_elementData_915e3 cJx4a65c_elementData_915e3 2 (some (.object "java/lang/Object")), Cond.fieldLink RJx4a65c 9 "java/util/ArrayList" "elementData" "[Ljava/lang/Object;", Cond.methodLink RX3 223 yJx4a65c_remove_915e3, Cond.instanceMethod yJx4a65c_remove_915e3, Cond.selects RJx4a65c yJx4a65c_remove_915e3 yJx4a65c_remove_915e3, Cond.code yJx4a65c_remove_915e3 cJx4a65c_remove_915e3 4 (some (.object "java/lang/Object")), Cond.methodLink RJx4a65c 144 yJx4a65c_fastRemove_b59b0, Cond.instanceMethod yJx4a65c_fastRemove_b59b0, Cond.selects RJx4a65c yJx4a65c_fastRemove_b59b0 yJx4a65c_fastRemove_b59b0, Cond.code yJx4a65c_fastRemove_b59b0 cJx4a65c_fastRemove_b59b0 4 none, Cond.fieldLink RJx4a65c 63 "java/util/ArrayList" "modCount" "I", Cond.sameField "java/util/ArrayList" "java/util/AbstractList" "modCount" "I", Cond.methodLink RJx4a65c 112 arraycopyName, Cond.native arraycopyName, Cond.static arraycopyName, Cond.initialized "java/lang/System"]
def wsX3_leaveLine : List Cond := .code yX3_leaveLine cX3_leaveLine 3 none :: ((wsX3_leaveLine_r1 ++ wsX3_leaveLine_r2) ++ wsX30 ++ wsX10 ++ wsJx4a65c0)
def wsX3_end : List Cond := .code yX3_end cX3_end 3 none :: ([.fieldLink RX3 118 "FrontDoor$Call" "state" "I", .fieldLink RX3 95 "FrontDoor" "tick" "I", .fieldLink RX3 226 "FrontDoor$Call" "ended" "I", .fieldLink RX3 134 "FrontDoor" "endedSoFar" "I"] ++ wsX10 ++ wsX30)
def wsX3_dropEnded_r1 : List Cond := [Cond.fieldLink RX3 19 "FrontDoor" "live" "Ljava/util/ArrayList;", Cond.classLink RX3 93 "FrontDoor$Call", Cond.methodLink RX3 43 yJx4a65c_size_8abf5, Cond.instanceMethod yJx4a65c_size_8abf5, Cond.selects RJx4a65c yJx4a65c_size_8abf5 yJx4a65c_size_8abf5, Cond.initialized RJx4a65c, Cond.code yJx4a65c_size_8abf5 cJx4a65c_size_8abf5 1 (some .int), Cond.fieldLink RJx4a65c 48 "java/util/ArrayList" "size" "I", Cond.methodLink RX3 151 yJx4a65c_get_915e3, Cond.instanceMethod yJx4a65c_get_915e3, Cond.selects RJx4a65c yJx4a65c_get_915e3 yJx4a65c_get_915e3, Cond.code yJx4a65c_get_915e3 cJx4a65c_get_915e3 2 (some (.object "java/lang/Object")), Cond.methodLink RJx4a65c 118 yJ15_checkIndex_7cf53, Cond.static yJ15_checkIndex_7cf53, Cond.initialized RJ15, Cond.code yJ15_checkIndex_7cf53 cJ15_checkIndex_7cf53 2 (some .int), Cond.methodLink RJ15 105 yJ3_checkIndex_8e157, Cond.static yJ3_checkIndex_8e157, Cond.initialized RJ3, Cond.code yJ3_checkIndex_8e157 cJ3_checkIndex_8e157 3 (some .int), Cond.methodLink RJx4a65c 123 yJx4a65c_elementData_915e3, Cond.instanceMethod yJx4a65c_elementData_915e3, Cond.selects RJx4a65c yJx4a65c_elementData_915e3 yJx4a65c_elementData_915e3, Cond.code yJx4a65c_elementData_915e3 cJx4a65c_elementData_915e3 2 (some (.object "java/lang/Object"))]
def wsX3_dropEnded_r2 : List Cond := [Cond.fieldLink RJx4a65c 9 "java/util/ArrayList" "elementData" "[Ljava/lang/Object;", Cond.methodLink RX3 114 yX1_hasEnded, Cond.instanceMethod yX1_hasEnded, Cond.selects RX1 yX1_hasEnded yX1_hasEnded, Cond.initialized RX1, Cond.code yX1_hasEnded cX1_hasEnded 1 (some .boolean), Cond.fieldLink RX1 31 "FrontDoor$Call" "state" "I", Cond.methodLink RX3 223 yJx4a65c_remove_915e3, Cond.instanceMethod yJx4a65c_remove_915e3, Cond.selects RJx4a65c yJx4a65c_remove_915e3 yJx4a65c_remove_915e3, Cond.code yJx4a65c_remove_915e3 cJx4a65c_remove_915e3 4 (some (.object "java/lang/Object")), Cond.methodLink RJx4a65c 144 yJx4a65c_fastRemove_b59b0, Cond.instanceMethod yJx4a65c_fastRemove_b59b0, Cond.selects RJx4a65c yJx4a65c_fastRemove_b59b0 yJx4a65c_fastRemove_b59b0, Cond.code yJx4a65c_fastRemove_b59b0 cJx4a65c_fastRemove_b59b0 4 none, Cond.fieldLink RJx4a65c 63 "java/util/ArrayList" "modCount" "I", Cond.sameField "java/util/ArrayList" "java/util/AbstractList" "modCount" "I", Cond.methodLink RJx4a65c 112 arraycopyName, Cond.native arraycopyName, Cond.static arraycopyName, Cond.initialized "java/lang/System"]
def wsX3_dropEnded : List Cond := .code yX3_dropEnded cX3_dropEnded 2 none :: ((wsX3_dropEnded_r1 ++ wsX3_dropEnded_r2) ++ wsX30 ++ wsJx4a65c0 ++ wsX10)
def wsX3_off_r1 : List Cond := [Cond.fieldLink RX3 118 "FrontDoor$Call" "state" "I", Cond.methodLink RX3 110 yX3_callAt, Cond.instanceMethod yX3_callAt, Cond.selects RX3 yX3_callAt yX3_callAt, Cond.initialized RX3, Cond.code yX3_callAt cX3_callAt 2 (some (.object "FrontDoor$Call")), Cond.fieldLink RX3 16 "FrontDoor" "calls" "Ljava/util/ArrayList;", Cond.classLink RX3 93 "FrontDoor$Call", Cond.methodLink RX3 43 yJx4a65c_size_8abf5, Cond.instanceMethod yJx4a65c_size_8abf5, Cond.selects RJx4a65c yJx4a65c_size_8abf5 yJx4a65c_size_8abf5, Cond.initialized RJx4a65c, Cond.code yJx4a65c_size_8abf5 cJx4a65c_size_8abf5 1 (some .int), Cond.fieldLink RJx4a65c 48 "java/util/ArrayList" "size" "I", Cond.methodLink RX3 151 yJx4a65c_get_915e3, Cond.instanceMethod yJx4a65c_get_915e3, Cond.selects RJx4a65c yJx4a65c_get_915e3 yJx4a65c_get_915e3, Cond.code yJx4a65c_get_915e3 cJx4a65c_get_915e3 2 (some (.object "java/lang/Object")), Cond.methodLink RJx4a65c 118 yJ15_checkIndex_7cf53, Cond.static yJ15_checkIndex_7cf53, Cond.initialized RJ15, Cond.code yJ15_checkIndex_7cf53 cJ15_checkIndex_7cf53 2 (some .int), Cond.methodLink RJ15 105 yJ3_checkIndex_8e157, Cond.static yJ3_checkIndex_8e157]
def wsX3_off_r2 : List Cond := [Cond.initialized RJ3, Cond.code yJ3_checkIndex_8e157 cJ3_checkIndex_8e157 3 (some .int), Cond.methodLink RJx4a65c 123 yJx4a65c_elementData_915e3, Cond.instanceMethod yJx4a65c_elementData_915e3, Cond.selects RJx4a65c yJx4a65c_elementData_915e3 yJx4a65c_elementData_915e3, Cond.code yJx4a65c_elementData_915e3 cJx4a65c_elementData_915e3 2 (some (.object "java/lang/Object")), Cond.fieldLink RJx4a65c 9 "java/util/ArrayList" "elementData" "[Ljava/lang/Object;", Cond.methodLink RX3 39 yX3_refuse, Cond.instanceMethod yX3_refuse, Cond.selects RX3 yX3_refuse yX3_refuse, Cond.code yX3_refuse cX3_refuse 3 (some .int), Cond.fieldLink RX3 25 "FrontDoor" "refusals" "[I", Cond.methodLink RX3 114 yX1_hasEnded, Cond.instanceMethod yX1_hasEnded, Cond.selects RX1 yX1_hasEnded yX1_hasEnded, Cond.initialized RX1, Cond.code yX1_hasEnded cX1_hasEnded 1 (some .boolean), Cond.fieldLink RX1 31 "FrontDoor$Call" "state" "I", Cond.methodLink RX3 121 yX3_leaveLine, Cond.instanceMethod yX3_leaveLine, Cond.selects RX3 yX3_leaveLine yX3_leaveLine, Cond.code yX3_leaveLine cX3_leaveLine 3 none, Cond.fieldLink RX3 22 "FrontDoor" "line" "Ljava/util/ArrayList;", Cond.fieldLink RX3 109 "FrontDoor$Call" "number" "I"]
def wsX3_off_r3 : List Cond := [Cond.methodLink RX3 223 yJx4a65c_remove_915e3, Cond.instanceMethod yJx4a65c_remove_915e3, Cond.selects RJx4a65c yJx4a65c_remove_915e3 yJx4a65c_remove_915e3, Cond.code yJx4a65c_remove_915e3 cJx4a65c_remove_915e3 4 (some (.object "java/lang/Object")), Cond.methodLink RJx4a65c 144 yJx4a65c_fastRemove_b59b0, Cond.instanceMethod yJx4a65c_fastRemove_b59b0, Cond.selects RJx4a65c yJx4a65c_fastRemove_b59b0 yJx4a65c_fastRemove_b59b0, Cond.code yJx4a65c_fastRemove_b59b0 cJx4a65c_fastRemove_b59b0 4 none, Cond.fieldLink RJx4a65c 63 "java/util/ArrayList" "modCount" "I", Cond.sameField "java/util/ArrayList" "java/util/AbstractList" "modCount" "I", Cond.methodLink RJx4a65c 112 arraycopyName, Cond.native arraycopyName, Cond.static arraycopyName, Cond.initialized "java/lang/System", Cond.methodLink RX3 124 yX1_callOffAll, Cond.instanceMethod yX1_callOffAll, Cond.selects RX1 yX1_callOffAll yX1_callOffAll, Cond.code yX1_callOffAll cX1_callOffAll 1 none, Cond.fieldLink RX1 44 "FrontDoor$Call" "second" "LFrontDoor$Asking;", Cond.fieldLink RX1 40 "FrontDoor$Call" "first" "LFrontDoor$Asking;", Cond.methodLink RX1 62 yX1_letGo, Cond.instanceMethod yX1_letGo, Cond.selects RX1 yX1_letGo yX1_letGo, Cond.code yX1_letGo cX1_letGo 2 none]
def wsX3_off_r4 : List Cond := [Cond.fieldLink RX1 50 "FrontDoor$Asking" "server" "LFrontDoor$Server;", Cond.fieldLink RX1 59 "FrontDoor$Server" "open" "I", Cond.methodLink RX3 127 yX3_end, Cond.instanceMethod yX3_end, Cond.selects RX3 yX3_end yX3_end, Cond.code yX3_end cX3_end 3 none, Cond.fieldLink RX3 95 "FrontDoor" "tick" "I", Cond.fieldLink RX3 226 "FrontDoor$Call" "ended" "I", Cond.fieldLink RX3 134 "FrontDoor" "endedSoFar" "I", Cond.methodLink RX3 131 yX3_dropEnded, Cond.instanceMethod yX3_dropEnded, Cond.selects RX3 yX3_dropEnded yX3_dropEnded, Cond.code yX3_dropEnded cX3_dropEnded 2 none, Cond.fieldLink RX3 19 "FrontDoor" "live" "Ljava/util/ArrayList;"]
def wsX3_off : List Cond := .code yX3_off cX3_off 3 (some .int) :: ((wsX3_off_r1 ++ (wsX3_off_r2 ++ (wsX3_off_r3 ++ wsX3_off_r4))) ++ wsX10 ++ wsX30 ++ wsJx4a65c0 ++ wsX00 ++ wsX20)
def wsX3_oneMoreOutIsTooMany_r1 : List Cond := [Cond.fieldLink RX3 10 "FrontDoor" "servers" "Ljava/util/ArrayList;", Cond.classLink RX3 47 "FrontDoor$Server", Cond.fieldLink RX3 63 "FrontDoor$Server" "health" "I", Cond.methodLink RX3 43 yJx4a65c_size_8abf5, Cond.instanceMethod yJx4a65c_size_8abf5, Cond.selects RJx4a65c yJx4a65c_size_8abf5 yJx4a65c_size_8abf5, Cond.initialized RJx4a65c, Cond.code yJx4a65c_size_8abf5 cJx4a65c_size_8abf5 1 (some .int), Cond.fieldLink RJx4a65c 48 "java/util/ArrayList" "size" "I", Cond.methodLink RX3 151 yJx4a65c_get_915e3, Cond.instanceMethod yJx4a65c_get_915e3, Cond.selects RJx4a65c yJx4a65c_get_915e3 yJx4a65c_get_915e3, Cond.code yJx4a65c_get_915e3 cJx4a65c_get_915e3 2 (some (.object "java/lang/Object")), Cond.methodLink RJx4a65c 118 yJ15_checkIndex_7cf53, Cond.static yJ15_checkIndex_7cf53, Cond.initialized RJ15, Cond.code yJ15_checkIndex_7cf53 cJ15_checkIndex_7cf53 2 (some .int), Cond.methodLink RJ15 105 yJ3_checkIndex_8e157, Cond.static yJ3_checkIndex_8e157, Cond.initialized RJ3, Cond.code yJ3_checkIndex_8e157 cJ3_checkIndex_8e157 3 (some .int), Cond.methodLink RJx4a65c 123 yJx4a65c_elementData_915e3, Cond.instanceMethod yJx4a65c_elementData_915e3, Cond.selects RJx4a65c yJx4a65c_elementData_915e3 yJx4a65c_elementData_915e3]
def wsX3_oneMoreOutIsTooMany_r2 : List Cond := [Cond.code yJx4a65c_elementData_915e3 cJx4a65c_elementData_915e3 2 (some (.object "java/lang/Object")), Cond.fieldLink RJx4a65c 9 "java/util/ArrayList" "elementData" "[Ljava/lang/Object;"]
def wsX3_oneMoreOutIsTooMany : List Cond := .code yX3_oneMoreOutIsTooMany cX3_oneMoreOutIsTooMany 5 (some .boolean) :: ((wsX3_oneMoreOutIsTooMany_r1 ++ wsX3_oneMoreOutIsTooMany_r2) ++ wsX30 ++ wsX20 ++ wsJx4a65c0)
def wsX3_failureOf_r1 : List Cond := [Cond.fieldLink RX3 293 "FrontDoor$Server" "failures" "I", Cond.fieldLink RX3 83 "FrontDoor$Server" "row" "I", Cond.fieldLink RX3 63 "FrontDoor$Server" "health" "I", Cond.fieldLink RX3 33 "FrontDoor" "limitNow" "I", Cond.fieldLink RX3 95 "FrontDoor" "tick" "I", Cond.methodLink RX3 296 yX3_oneMoreOutIsTooMany, Cond.instanceMethod yX3_oneMoreOutIsTooMany, Cond.selects RX3 yX3_oneMoreOutIsTooMany yX3_oneMoreOutIsTooMany, Cond.initialized RX3, Cond.code yX3_oneMoreOutIsTooMany cX3_oneMoreOutIsTooMany 5 (some .boolean), Cond.fieldLink RX3 10 "FrontDoor" "servers" "Ljava/util/ArrayList;", Cond.classLink RX3 47 "FrontDoor$Server", Cond.methodLink RX3 43 yJx4a65c_size_8abf5, Cond.instanceMethod yJx4a65c_size_8abf5, Cond.selects RJx4a65c yJx4a65c_size_8abf5 yJx4a65c_size_8abf5, Cond.initialized RJx4a65c, Cond.code yJx4a65c_size_8abf5 cJx4a65c_size_8abf5 1 (some .int), Cond.fieldLink RJx4a65c 48 "java/util/ArrayList" "size" "I", Cond.methodLink RX3 151 yJx4a65c_get_915e3, Cond.instanceMethod yJx4a65c_get_915e3, Cond.selects RJx4a65c yJx4a65c_get_915e3 yJx4a65c_get_915e3, Cond.code yJx4a65c_get_915e3 cJx4a65c_get_915e3 2 (some (.object "java/lang/Object")), Cond.methodLink RJx4a65c 118 yJ15_checkIndex_7cf53, Cond.static yJ15_checkIndex_7cf53]
def wsX3_failureOf_r2 : List Cond := [Cond.initialized RJ15, Cond.code yJ15_checkIndex_7cf53 cJ15_checkIndex_7cf53 2 (some .int), Cond.methodLink RJ15 105 yJ3_checkIndex_8e157, Cond.static yJ3_checkIndex_8e157, Cond.initialized RJ3, Cond.code yJ3_checkIndex_8e157 cJ3_checkIndex_8e157 3 (some .int), Cond.methodLink RJx4a65c 123 yJx4a65c_elementData_915e3, Cond.instanceMethod yJx4a65c_elementData_915e3, Cond.selects RJx4a65c yJx4a65c_elementData_915e3 yJx4a65c_elementData_915e3, Cond.code yJx4a65c_elementData_915e3 cJx4a65c_elementData_915e3 2 (some (.object "java/lang/Object")), Cond.fieldLink RJx4a65c 9 "java/util/ArrayList" "elementData" "[Ljava/lang/Object;", Cond.methodLink RX3 299 yX2_goOut, Cond.instanceMethod yX2_goOut, Cond.selects RX2 yX2_goOut yX2_goOut, Cond.initialized RX2, Cond.code yX2_goOut cX2_goOut 2 none, Cond.fieldLink RX2 30 "FrontDoor$Server" "health" "I", Cond.fieldLink RX2 33 "FrontDoor$Server" "penalty" "I", Cond.fieldLink RX2 68 "FrontDoor$Server" "until" "I", Cond.methodLink RX2 45 Lib.Math.min.name, Cond.static Lib.Math.min.name, Cond.initialized "java/lang/Math", Cond.code Lib.Math.min.name Lib.Math.min.code 2 (some .int), Cond.fieldLink RX2 71 "FrontDoor$Server" "outs" "I"]
def wsX3_failureOf_r3 : List Cond := [Cond.fieldLink RX2 65 "FrontDoor$Server" "row" "I"]
def wsX3_failureOf : List Cond := .code yX3_failureOf cX3_failureOf 2 none :: ((wsX3_failureOf_r1 ++ (wsX3_failureOf_r2 ++ wsX3_failureOf_r3)) ++ wsX20 ++ wsX30 ++ wsJx4a65c0)
def wsX3_budgetHolds : List Cond := .code yX3_budgetHolds cX3_budgetHolds 1 (some .boolean) :: ([.fieldLink RX3 164 "FrontDoor" "agains" "I", .fieldLink RX3 36 "FrontDoor" "budgetNow" "I", .fieldLink RX3 16 "FrontDoor" "calls" "Ljava/util/ArrayList;", .methodLink RX3 43 yJx4a65c_size_8abf5, .instanceMethod yJx4a65c_size_8abf5, .selects RJx4a65c yJx4a65c_size_8abf5 yJx4a65c_size_8abf5, .initialized RJx4a65c, .code yJx4a65c_size_8abf5 cJx4a65c_size_8abf5 1 (some .int), .fieldLink RJx4a65c 48 "java/util/ArrayList" "size" "I"] ++ wsX30 ++ wsJx4a65c0)
def wsX3_takeAnswer_r1 : List Cond := [Cond.fieldLink RX3 263 "FrontDoor$Asking" "fails" "Z", Cond.fieldLink RX3 267 "FrontDoor$Asking" "server" "LFrontDoor$Server;", Cond.fieldLink RX3 56 "FrontDoor$Server" "number" "I", Cond.fieldLink RX3 274 "FrontDoor$Call" "answerer" "I", Cond.fieldLink RX3 247 "FrontDoor$Call" "first" "LFrontDoor$Asking;", Cond.fieldLink RX3 284 "FrontDoor$Call" "safe" "Z", Cond.fieldLink RX3 95 "FrontDoor" "tick" "I", Cond.fieldLink RX3 287 "FrontDoor$Call" "due" "I", Cond.fieldLink RX3 164 "FrontDoor" "agains" "I", Cond.methodLink RX3 271 yX2_answer, Cond.instanceMethod yX2_answer, Cond.selects RX2 yX2_answer yX2_answer, Cond.initialized RX2, Cond.code yX2_answer cX2_answer 1 none, Cond.fieldLink RX2 62 "FrontDoor$Server" "answers" "I", Cond.fieldLink RX2 65 "FrontDoor$Server" "row" "I", Cond.fieldLink RX2 33 "FrontDoor$Server" "penalty" "I", Cond.fieldLink RX2 30 "FrontDoor$Server" "health" "I", Cond.methodLink RX3 124 yX1_callOffAll, Cond.instanceMethod yX1_callOffAll, Cond.selects RX1 yX1_callOffAll yX1_callOffAll, Cond.initialized RX1, Cond.code yX1_callOffAll cX1_callOffAll 1 none, Cond.fieldLink RX1 44 "FrontDoor$Call" "second" "LFrontDoor$Asking;"]
def wsX3_takeAnswer_r2 : List Cond := [Cond.fieldLink RX1 40 "FrontDoor$Call" "first" "LFrontDoor$Asking;", Cond.methodLink RX1 62 yX1_letGo, Cond.instanceMethod yX1_letGo, Cond.selects RX1 yX1_letGo yX1_letGo, Cond.code yX1_letGo cX1_letGo 2 none, Cond.fieldLink RX1 50 "FrontDoor$Asking" "server" "LFrontDoor$Server;", Cond.fieldLink RX1 59 "FrontDoor$Server" "open" "I", Cond.methodLink RX3 127 yX3_end, Cond.instanceMethod yX3_end, Cond.selects RX3 yX3_end yX3_end, Cond.initialized RX3, Cond.code yX3_end cX3_end 3 none, Cond.fieldLink RX3 118 "FrontDoor$Call" "state" "I", Cond.fieldLink RX3 226 "FrontDoor$Call" "ended" "I", Cond.fieldLink RX3 134 "FrontDoor" "endedSoFar" "I", Cond.methodLink RX3 277 yX1_letGo, Cond.methodLink RX3 280 yX3_failureOf, Cond.instanceMethod yX3_failureOf, Cond.selects RX3 yX3_failureOf yX3_failureOf, Cond.code yX3_failureOf cX3_failureOf 2 none, Cond.fieldLink RX3 293 "FrontDoor$Server" "failures" "I", Cond.fieldLink RX3 83 "FrontDoor$Server" "row" "I", Cond.fieldLink RX3 63 "FrontDoor$Server" "health" "I", Cond.fieldLink RX3 33 "FrontDoor" "limitNow" "I"]
def wsX3_takeAnswer_r3 : List Cond := [Cond.methodLink RX3 296 yX3_oneMoreOutIsTooMany, Cond.instanceMethod yX3_oneMoreOutIsTooMany, Cond.selects RX3 yX3_oneMoreOutIsTooMany yX3_oneMoreOutIsTooMany, Cond.code yX3_oneMoreOutIsTooMany cX3_oneMoreOutIsTooMany 5 (some .boolean), Cond.fieldLink RX3 10 "FrontDoor" "servers" "Ljava/util/ArrayList;", Cond.classLink RX3 47 "FrontDoor$Server", Cond.methodLink RX3 43 yJx4a65c_size_8abf5, Cond.instanceMethod yJx4a65c_size_8abf5, Cond.selects RJx4a65c yJx4a65c_size_8abf5 yJx4a65c_size_8abf5, Cond.initialized RJx4a65c, Cond.code yJx4a65c_size_8abf5 cJx4a65c_size_8abf5 1 (some .int), Cond.fieldLink RJx4a65c 48 "java/util/ArrayList" "size" "I", Cond.methodLink RX3 151 yJx4a65c_get_915e3, Cond.instanceMethod yJx4a65c_get_915e3, Cond.selects RJx4a65c yJx4a65c_get_915e3 yJx4a65c_get_915e3, Cond.code yJx4a65c_get_915e3 cJx4a65c_get_915e3 2 (some (.object "java/lang/Object")), Cond.methodLink RJx4a65c 118 yJ15_checkIndex_7cf53, Cond.static yJ15_checkIndex_7cf53, Cond.initialized RJ15, Cond.code yJ15_checkIndex_7cf53 cJ15_checkIndex_7cf53 2 (some .int), Cond.methodLink RJ15 105 yJ3_checkIndex_8e157, Cond.static yJ3_checkIndex_8e157, Cond.initialized RJ3, Cond.code yJ3_checkIndex_8e157 cJ3_checkIndex_8e157 3 (some .int)]
def wsX3_takeAnswer_r4 : List Cond := [Cond.methodLink RJx4a65c 123 yJx4a65c_elementData_915e3, Cond.instanceMethod yJx4a65c_elementData_915e3, Cond.selects RJx4a65c yJx4a65c_elementData_915e3 yJx4a65c_elementData_915e3, Cond.code yJx4a65c_elementData_915e3 cJx4a65c_elementData_915e3 2 (some (.object "java/lang/Object")), Cond.fieldLink RJx4a65c 9 "java/util/ArrayList" "elementData" "[Ljava/lang/Object;", Cond.methodLink RX3 299 yX2_goOut, Cond.instanceMethod yX2_goOut, Cond.selects RX2 yX2_goOut yX2_goOut, Cond.code yX2_goOut cX2_goOut 2 none, Cond.fieldLink RX2 68 "FrontDoor$Server" "until" "I", Cond.methodLink RX2 45 Lib.Math.min.name, Cond.static Lib.Math.min.name, Cond.initialized "java/lang/Math", Cond.code Lib.Math.min.name Lib.Math.min.code 2 (some .int), Cond.fieldLink RX2 71 "FrontDoor$Server" "outs" "I", Cond.methodLink RX3 290 yX3_budgetHolds, Cond.instanceMethod yX3_budgetHolds, Cond.selects RX3 yX3_budgetHolds yX3_budgetHolds, Cond.code yX3_budgetHolds cX3_budgetHolds 1 (some .boolean), Cond.fieldLink RX3 36 "FrontDoor" "budgetNow" "I", Cond.fieldLink RX3 16 "FrontDoor" "calls" "Ljava/util/ArrayList;", Cond.methodLink RX3 105 yX3_joinLine, Cond.instanceMethod yX3_joinLine, Cond.selects RX3 yX3_joinLine yX3_joinLine]
def wsX3_takeAnswer_r5 : List Cond := [Cond.code yX3_joinLine cX3_joinLine 3 none, Cond.fieldLink RX3 22 "FrontDoor" "line" "Ljava/util/ArrayList;", Cond.classLink RX3 93 "FrontDoor$Call", Cond.methodLink RX3 217 yX1_goesAheadOf, Cond.instanceMethod yX1_goesAheadOf, Cond.selects RX1 yX1_goesAheadOf yX1_goesAheadOf, Cond.code yX1_goesAheadOf cX1_goesAheadOf 2 (some .boolean), Cond.fieldLink RX1 18 "FrontDoor$Call" "grade" "I", Cond.fieldLink RX1 24 "FrontDoor$Call" "due" "I", Cond.fieldLink RX1 9 "FrontDoor$Call" "number" "I", Cond.methodLink RX3 220 yJx4a65c_add_7a177, Cond.instanceMethod yJx4a65c_add_7a177, Cond.selects RJx4a65c yJx4a65c_add_7a177 yJx4a65c_add_7a177, Cond.code yJx4a65c_add_7a177 cJx4a65c_add_7a177 5 none, Cond.fieldLink RJx4a65c 63 "java/util/ArrayList" "modCount" "I", Cond.sameField "java/util/ArrayList" "java/util/AbstractList" "modCount" "I", Cond.methodLink RJx4a65c 112 arraycopyName, Cond.native arraycopyName, Cond.static arraycopyName, Cond.initialized "java/lang/System", Cond.methodLink RJx4a65c 135 yJx4a65c_rangeCheckForAdd_d00df, Cond.instanceMethod yJx4a65c_rangeCheckForAdd_d00df, Cond.selects RJx4a65c yJx4a65c_rangeCheckForAdd_d00df yJx4a65c_rangeCheckForAdd_d00df, Cond.code yJx4a65c_rangeCheckForAdd_d00df cJx4a65c_rangeCheckForAdd_d00df 2 none]
def wsX3_takeAnswer_r6 : List Cond := [Cond.methodLink RJx4a65c 129 yJx4a65c_grow_d5877, Cond.instanceMethod yJx4a65c_grow_d5877, Cond.selects RJx4a65c yJx4a65c_grow_d5877 yJx4a65c_grow_d5877, Cond.code yJx4a65c_grow_d5877 cJx4a65c_grow_d5877 1 (some (.array (.object "java/lang/Object"))), Cond.methodLink RJx4a65c 69 yJx4a65c_grow_92f84, Cond.instanceMethod yJx4a65c_grow_92f84, Cond.selects RJx4a65c yJx4a65c_grow_92f84 yJx4a65c_grow_92f84, Cond.code yJx4a65c_grow_92f84 cJx4a65c_grow_92f84 4 (some (.array (.object "java/lang/Object"))), Cond.fieldLink RJx4a65c 39 "java/util/ArrayList" "DEFAULTCAPACITY_EMPTY_ELEMENTDATA" "[Ljava/lang/Object;", Cond.methodLink RJx4a65c 79 Lib.Math.max.name, Cond.static Lib.Math.max.name, Cond.code Lib.Math.max.name Lib.Math.max.code 2 (some .int), Cond.classLink RJx4a65c 7 "java/lang/Object", Cond.methodLink RJx4a65c 73 yJ8_newLength_cabcc, Cond.static yJ8_newLength_cabcc, Cond.initialized RJ8, Cond.code yJ8_newLength_cabcc cJ8_newLength_cabcc 4 (some .int), Cond.methodLink RJ8 194 Lib.Math.max.name, Cond.constant RJ8 200 (2147483639), Cond.methodLink RJ8 201 yJ8_hugeLength_7cf53, Cond.static yJ8_hugeLength_7cf53, Cond.code yJ8_hugeLength_7cf53 cJ8_hugeLength_7cf53 3 (some .int), Cond.methodLink RJx4a65c 66 yJ7_copyOf_1904c, Cond.static yJ7_copyOf_1904c]
def wsX3_takeAnswer_r7 : List Cond := [Cond.initialized RJ7, Cond.code yJ7_copyOf_1904c cJ7_copyOf_1904c 2 (some (.array (.object "java/lang/Object"))), Cond.methodLink RJ7 86 ⟨"java/lang/Object", "getClass", "()Ljava/lang/Class;"⟩, Cond.selects "[Ljava/lang/Object;" ⟨"java/lang/Object", "getClass", "()Ljava/lang/Class;"⟩ ⟨"java/lang/Object", "getClass", "()Ljava/lang/Class;"⟩, Cond.instanceMethod ⟨"java/lang/Object", "getClass", "()Ljava/lang/Class;"⟩, Cond.native ⟨"java/lang/Object", "getClass", "()Ljava/lang/Class;"⟩, Cond.methodLink RJ7 300 yJ7_copyOf_6403c, Cond.static yJ7_copyOf_6403c, Cond.code yJ7_copyOf_6403c cJ7_copyOf_6403c 4 (some (.array (.object "java/lang/Object"))), Cond.classLink RJ7 110 "[Ljava/lang/Object;", Cond.classLink RJ7 2 "java/lang/Object", Cond.methodLink RJ7 304 Lib.Math.min.name, Cond.methodLink RJ7 150 arraycopyName]
def wsX3_takeAnswer : List Cond := .code yX3_takeAnswer cX3_takeAnswer 3 none :: ((wsX3_takeAnswer_r1 ++ (wsX3_takeAnswer_r2 ++ (wsX3_takeAnswer_r3 ++ (wsX3_takeAnswer_r4 ++ (wsX3_takeAnswer_r5 ++ (wsX3_takeAnswer_r6 ++ wsX3_takeAnswer_r7)))))) ++ wsX00 ++ wsX20 ++ wsX10 ++ wsX30 ++ wsJx4a65c0)
def wsX3_takeWhatIsOver_r1 : List Cond := [Cond.fieldLink RX3 19 "FrontDoor" "live" "Ljava/util/ArrayList;", Cond.classLink RX3 93 "FrontDoor$Call", Cond.fieldLink RX3 247 "FrontDoor$Call" "first" "LFrontDoor$Asking;", Cond.fieldLink RX3 251 "FrontDoor$Call" "second" "LFrontDoor$Asking;", Cond.fieldLink RX3 254 "FrontDoor$Asking" "over" "I", Cond.fieldLink RX3 95 "FrontDoor" "tick" "I", Cond.fieldLink RX3 118 "FrontDoor$Call" "state" "I", Cond.methodLink RX3 43 yJx4a65c_size_8abf5, Cond.instanceMethod yJx4a65c_size_8abf5, Cond.selects RJx4a65c yJx4a65c_size_8abf5 yJx4a65c_size_8abf5, Cond.initialized RJx4a65c, Cond.code yJx4a65c_size_8abf5 cJx4a65c_size_8abf5 1 (some .int), Cond.fieldLink RJx4a65c 48 "java/util/ArrayList" "size" "I", Cond.methodLink RX3 151 yJx4a65c_get_915e3, Cond.instanceMethod yJx4a65c_get_915e3, Cond.selects RJx4a65c yJx4a65c_get_915e3 yJx4a65c_get_915e3, Cond.code yJx4a65c_get_915e3 cJx4a65c_get_915e3 2 (some (.object "java/lang/Object")), Cond.methodLink RJx4a65c 118 yJ15_checkIndex_7cf53, Cond.static yJ15_checkIndex_7cf53, Cond.initialized RJ15, Cond.code yJ15_checkIndex_7cf53 cJ15_checkIndex_7cf53 2 (some .int), Cond.methodLink RJ15 105 yJ3_checkIndex_8e157, Cond.static yJ3_checkIndex_8e157, Cond.initialized RJ3]
def wsX3_takeWhatIsOver_r2 : List Cond := [Cond.code yJ3_checkIndex_8e157 cJ3_checkIndex_8e157 3 (some .int), Cond.methodLink RJx4a65c 123 yJx4a65c_elementData_915e3, Cond.instanceMethod yJx4a65c_elementData_915e3, Cond.selects RJx4a65c yJx4a65c_elementData_915e3 yJx4a65c_elementData_915e3, Cond.code yJx4a65c_elementData_915e3 cJx4a65c_elementData_915e3 2 (some (.object "java/lang/Object")), Cond.fieldLink RJx4a65c 9 "java/util/ArrayList" "elementData" "[Ljava/lang/Object;", Cond.methodLink RX3 259 yX3_takeAnswer, Cond.instanceMethod yX3_takeAnswer, Cond.selects RX3 yX3_takeAnswer yX3_takeAnswer, Cond.initialized RX3, Cond.code yX3_takeAnswer cX3_takeAnswer 3 none, Cond.fieldLink RX3 263 "FrontDoor$Asking" "fails" "Z", Cond.fieldLink RX3 267 "FrontDoor$Asking" "server" "LFrontDoor$Server;", Cond.fieldLink RX3 56 "FrontDoor$Server" "number" "I", Cond.fieldLink RX3 274 "FrontDoor$Call" "answerer" "I", Cond.fieldLink RX3 284 "FrontDoor$Call" "safe" "Z", Cond.fieldLink RX3 287 "FrontDoor$Call" "due" "I", Cond.fieldLink RX3 164 "FrontDoor" "agains" "I", Cond.methodLink RX3 271 yX2_answer, Cond.instanceMethod yX2_answer, Cond.selects RX2 yX2_answer yX2_answer, Cond.initialized RX2, Cond.code yX2_answer cX2_answer 1 none, Cond.fieldLink RX2 62 "FrontDoor$Server" "answers" "I"]
def wsX3_takeWhatIsOver_r3 : List Cond := [Cond.fieldLink RX2 65 "FrontDoor$Server" "row" "I", Cond.fieldLink RX2 33 "FrontDoor$Server" "penalty" "I", Cond.fieldLink RX2 30 "FrontDoor$Server" "health" "I", Cond.methodLink RX3 124 yX1_callOffAll, Cond.instanceMethod yX1_callOffAll, Cond.selects RX1 yX1_callOffAll yX1_callOffAll, Cond.initialized RX1, Cond.code yX1_callOffAll cX1_callOffAll 1 none, Cond.fieldLink RX1 44 "FrontDoor$Call" "second" "LFrontDoor$Asking;", Cond.fieldLink RX1 40 "FrontDoor$Call" "first" "LFrontDoor$Asking;", Cond.methodLink RX1 62 yX1_letGo, Cond.instanceMethod yX1_letGo, Cond.selects RX1 yX1_letGo yX1_letGo, Cond.code yX1_letGo cX1_letGo 2 none, Cond.fieldLink RX1 50 "FrontDoor$Asking" "server" "LFrontDoor$Server;", Cond.fieldLink RX1 59 "FrontDoor$Server" "open" "I", Cond.methodLink RX3 127 yX3_end, Cond.instanceMethod yX3_end, Cond.selects RX3 yX3_end yX3_end, Cond.code yX3_end cX3_end 3 none, Cond.fieldLink RX3 226 "FrontDoor$Call" "ended" "I", Cond.fieldLink RX3 134 "FrontDoor" "endedSoFar" "I", Cond.methodLink RX3 277 yX1_letGo, Cond.methodLink RX3 280 yX3_failureOf]
def wsX3_takeWhatIsOver_r4 : List Cond := [Cond.instanceMethod yX3_failureOf, Cond.selects RX3 yX3_failureOf yX3_failureOf, Cond.code yX3_failureOf cX3_failureOf 2 none, Cond.fieldLink RX3 293 "FrontDoor$Server" "failures" "I", Cond.fieldLink RX3 83 "FrontDoor$Server" "row" "I", Cond.fieldLink RX3 63 "FrontDoor$Server" "health" "I", Cond.fieldLink RX3 33 "FrontDoor" "limitNow" "I", Cond.methodLink RX3 296 yX3_oneMoreOutIsTooMany, Cond.instanceMethod yX3_oneMoreOutIsTooMany, Cond.selects RX3 yX3_oneMoreOutIsTooMany yX3_oneMoreOutIsTooMany, Cond.code yX3_oneMoreOutIsTooMany cX3_oneMoreOutIsTooMany 5 (some .boolean), Cond.fieldLink RX3 10 "FrontDoor" "servers" "Ljava/util/ArrayList;", Cond.classLink RX3 47 "FrontDoor$Server", Cond.methodLink RX3 299 yX2_goOut, Cond.instanceMethod yX2_goOut, Cond.selects RX2 yX2_goOut yX2_goOut, Cond.code yX2_goOut cX2_goOut 2 none, Cond.fieldLink RX2 68 "FrontDoor$Server" "until" "I", Cond.methodLink RX2 45 Lib.Math.min.name, Cond.static Lib.Math.min.name, Cond.initialized "java/lang/Math", Cond.code Lib.Math.min.name Lib.Math.min.code 2 (some .int), Cond.fieldLink RX2 71 "FrontDoor$Server" "outs" "I", Cond.methodLink RX3 290 yX3_budgetHolds]
def wsX3_takeWhatIsOver_r5 : List Cond := [Cond.instanceMethod yX3_budgetHolds, Cond.selects RX3 yX3_budgetHolds yX3_budgetHolds, Cond.code yX3_budgetHolds cX3_budgetHolds 1 (some .boolean), Cond.fieldLink RX3 36 "FrontDoor" "budgetNow" "I", Cond.fieldLink RX3 16 "FrontDoor" "calls" "Ljava/util/ArrayList;", Cond.methodLink RX3 105 yX3_joinLine, Cond.instanceMethod yX3_joinLine, Cond.selects RX3 yX3_joinLine yX3_joinLine, Cond.code yX3_joinLine cX3_joinLine 3 none, Cond.fieldLink RX3 22 "FrontDoor" "line" "Ljava/util/ArrayList;", Cond.methodLink RX3 217 yX1_goesAheadOf, Cond.instanceMethod yX1_goesAheadOf, Cond.selects RX1 yX1_goesAheadOf yX1_goesAheadOf, Cond.code yX1_goesAheadOf cX1_goesAheadOf 2 (some .boolean), Cond.fieldLink RX1 18 "FrontDoor$Call" "grade" "I", Cond.fieldLink RX1 24 "FrontDoor$Call" "due" "I", Cond.fieldLink RX1 9 "FrontDoor$Call" "number" "I", Cond.methodLink RX3 220 yJx4a65c_add_7a177, Cond.instanceMethod yJx4a65c_add_7a177, Cond.selects RJx4a65c yJx4a65c_add_7a177 yJx4a65c_add_7a177, Cond.code yJx4a65c_add_7a177 cJx4a65c_add_7a177 5 none, Cond.fieldLink RJx4a65c 63 "java/util/ArrayList" "modCount" "I", Cond.sameField "java/util/ArrayList" "java/util/AbstractList" "modCount" "I", Cond.methodLink RJx4a65c 112 arraycopyName]
def wsX3_takeWhatIsOver_r6 : List Cond := [Cond.native arraycopyName, Cond.static arraycopyName, Cond.initialized "java/lang/System", Cond.methodLink RJx4a65c 135 yJx4a65c_rangeCheckForAdd_d00df, Cond.instanceMethod yJx4a65c_rangeCheckForAdd_d00df, Cond.selects RJx4a65c yJx4a65c_rangeCheckForAdd_d00df yJx4a65c_rangeCheckForAdd_d00df, Cond.code yJx4a65c_rangeCheckForAdd_d00df cJx4a65c_rangeCheckForAdd_d00df 2 none, Cond.methodLink RJx4a65c 129 yJx4a65c_grow_d5877, Cond.instanceMethod yJx4a65c_grow_d5877, Cond.selects RJx4a65c yJx4a65c_grow_d5877 yJx4a65c_grow_d5877, Cond.code yJx4a65c_grow_d5877 cJx4a65c_grow_d5877 1 (some (.array (.object "java/lang/Object"))), Cond.methodLink RJx4a65c 69 yJx4a65c_grow_92f84, Cond.instanceMethod yJx4a65c_grow_92f84, Cond.selects RJx4a65c yJx4a65c_grow_92f84 yJx4a65c_grow_92f84, Cond.code yJx4a65c_grow_92f84 cJx4a65c_grow_92f84 4 (some (.array (.object "java/lang/Object"))), Cond.fieldLink RJx4a65c 39 "java/util/ArrayList" "DEFAULTCAPACITY_EMPTY_ELEMENTDATA" "[Ljava/lang/Object;", Cond.methodLink RJx4a65c 79 Lib.Math.max.name, Cond.static Lib.Math.max.name, Cond.code Lib.Math.max.name Lib.Math.max.code 2 (some .int), Cond.classLink RJx4a65c 7 "java/lang/Object", Cond.methodLink RJx4a65c 73 yJ8_newLength_cabcc, Cond.static yJ8_newLength_cabcc, Cond.initialized RJ8, Cond.code yJ8_newLength_cabcc cJ8_newLength_cabcc 4 (some .int)]
def wsX3_takeWhatIsOver_r7 : List Cond := [Cond.methodLink RJ8 194 Lib.Math.max.name, Cond.constant RJ8 200 (2147483639), Cond.methodLink RJ8 201 yJ8_hugeLength_7cf53, Cond.static yJ8_hugeLength_7cf53, Cond.code yJ8_hugeLength_7cf53 cJ8_hugeLength_7cf53 3 (some .int), Cond.methodLink RJx4a65c 66 yJ7_copyOf_1904c, Cond.static yJ7_copyOf_1904c, Cond.initialized RJ7, Cond.code yJ7_copyOf_1904c cJ7_copyOf_1904c 2 (some (.array (.object "java/lang/Object"))), Cond.methodLink RJ7 86 ⟨"java/lang/Object", "getClass", "()Ljava/lang/Class;"⟩, Cond.selects "[Ljava/lang/Object;" ⟨"java/lang/Object", "getClass", "()Ljava/lang/Class;"⟩ ⟨"java/lang/Object", "getClass", "()Ljava/lang/Class;"⟩, Cond.instanceMethod ⟨"java/lang/Object", "getClass", "()Ljava/lang/Class;"⟩, Cond.native ⟨"java/lang/Object", "getClass", "()Ljava/lang/Class;"⟩, Cond.methodLink RJ7 300 yJ7_copyOf_6403c, Cond.static yJ7_copyOf_6403c, Cond.code yJ7_copyOf_6403c cJ7_copyOf_6403c 4 (some (.array (.object "java/lang/Object"))), Cond.classLink RJ7 110 "[Ljava/lang/Object;", Cond.classLink RJ7 2 "java/lang/Object", Cond.methodLink RJ7 304 Lib.Math.min.name, Cond.methodLink RJ7 150 arraycopyName]
def wsX3_takeWhatIsOver : List Cond := .code yX3_takeWhatIsOver cX3_takeWhatIsOver 5 none :: ((wsX3_takeWhatIsOver_r1 ++ (wsX3_takeWhatIsOver_r2 ++ (wsX3_takeWhatIsOver_r3 ++ (wsX3_takeWhatIsOver_r4 ++ (wsX3_takeWhatIsOver_r5 ++ (wsX3_takeWhatIsOver_r6 ++ wsX3_takeWhatIsOver_r7)))))) ++ wsX30 ++ wsX10 ++ wsX00 ++ wsJx4a65c0 ++ wsX20)
def wsX3_failByDue_r1 : List Cond := [Cond.fieldLink RX3 247 "FrontDoor$Call" "first" "LFrontDoor$Asking;", Cond.fieldLink RX3 251 "FrontDoor$Call" "second" "LFrontDoor$Asking;", Cond.fieldLink RX3 267 "FrontDoor$Asking" "server" "LFrontDoor$Server;", Cond.methodLink RX3 124 yX1_callOffAll, Cond.instanceMethod yX1_callOffAll, Cond.selects RX1 yX1_callOffAll yX1_callOffAll, Cond.initialized RX1, Cond.code yX1_callOffAll cX1_callOffAll 1 none, Cond.fieldLink RX1 44 "FrontDoor$Call" "second" "LFrontDoor$Asking;", Cond.fieldLink RX1 40 "FrontDoor$Call" "first" "LFrontDoor$Asking;", Cond.methodLink RX1 62 yX1_letGo, Cond.instanceMethod yX1_letGo, Cond.selects RX1 yX1_letGo yX1_letGo, Cond.code yX1_letGo cX1_letGo 2 none, Cond.fieldLink RX1 50 "FrontDoor$Asking" "server" "LFrontDoor$Server;", Cond.fieldLink RX1 59 "FrontDoor$Server" "open" "I", Cond.methodLink RX3 280 yX3_failureOf, Cond.instanceMethod yX3_failureOf, Cond.selects RX3 yX3_failureOf yX3_failureOf, Cond.initialized RX3, Cond.code yX3_failureOf cX3_failureOf 2 none, Cond.fieldLink RX3 293 "FrontDoor$Server" "failures" "I", Cond.fieldLink RX3 83 "FrontDoor$Server" "row" "I", Cond.fieldLink RX3 63 "FrontDoor$Server" "health" "I"]
def wsX3_failByDue_r2 : List Cond := [Cond.fieldLink RX3 33 "FrontDoor" "limitNow" "I", Cond.fieldLink RX3 95 "FrontDoor" "tick" "I", Cond.methodLink RX3 296 yX3_oneMoreOutIsTooMany, Cond.instanceMethod yX3_oneMoreOutIsTooMany, Cond.selects RX3 yX3_oneMoreOutIsTooMany yX3_oneMoreOutIsTooMany, Cond.code yX3_oneMoreOutIsTooMany cX3_oneMoreOutIsTooMany 5 (some .boolean), Cond.fieldLink RX3 10 "FrontDoor" "servers" "Ljava/util/ArrayList;", Cond.classLink RX3 47 "FrontDoor$Server", Cond.methodLink RX3 43 yJx4a65c_size_8abf5, Cond.instanceMethod yJx4a65c_size_8abf5, Cond.selects RJx4a65c yJx4a65c_size_8abf5 yJx4a65c_size_8abf5, Cond.initialized RJx4a65c, Cond.code yJx4a65c_size_8abf5 cJx4a65c_size_8abf5 1 (some .int), Cond.fieldLink RJx4a65c 48 "java/util/ArrayList" "size" "I", Cond.methodLink RX3 151 yJx4a65c_get_915e3, Cond.instanceMethod yJx4a65c_get_915e3, Cond.selects RJx4a65c yJx4a65c_get_915e3 yJx4a65c_get_915e3, Cond.code yJx4a65c_get_915e3 cJx4a65c_get_915e3 2 (some (.object "java/lang/Object")), Cond.methodLink RJx4a65c 118 yJ15_checkIndex_7cf53, Cond.static yJ15_checkIndex_7cf53, Cond.initialized RJ15, Cond.code yJ15_checkIndex_7cf53 cJ15_checkIndex_7cf53 2 (some .int), Cond.methodLink RJ15 105 yJ3_checkIndex_8e157, Cond.static yJ3_checkIndex_8e157]
def wsX3_failByDue_r3 : List Cond := [Cond.initialized RJ3, Cond.code yJ3_checkIndex_8e157 cJ3_checkIndex_8e157 3 (some .int), Cond.methodLink RJx4a65c 123 yJx4a65c_elementData_915e3, Cond.instanceMethod yJx4a65c_elementData_915e3, Cond.selects RJx4a65c yJx4a65c_elementData_915e3 yJx4a65c_elementData_915e3, Cond.code yJx4a65c_elementData_915e3 cJx4a65c_elementData_915e3 2 (some (.object "java/lang/Object")), Cond.fieldLink RJx4a65c 9 "java/util/ArrayList" "elementData" "[Ljava/lang/Object;", Cond.methodLink RX3 299 yX2_goOut, Cond.instanceMethod yX2_goOut, Cond.selects RX2 yX2_goOut yX2_goOut, Cond.initialized RX2, Cond.code yX2_goOut cX2_goOut 2 none, Cond.fieldLink RX2 30 "FrontDoor$Server" "health" "I", Cond.fieldLink RX2 33 "FrontDoor$Server" "penalty" "I", Cond.fieldLink RX2 68 "FrontDoor$Server" "until" "I", Cond.methodLink RX2 45 Lib.Math.min.name, Cond.static Lib.Math.min.name, Cond.initialized "java/lang/Math", Cond.code Lib.Math.min.name Lib.Math.min.code 2 (some .int), Cond.fieldLink RX2 71 "FrontDoor$Server" "outs" "I", Cond.fieldLink RX2 65 "FrontDoor$Server" "row" "I", Cond.methodLink RX3 127 yX3_end, Cond.instanceMethod yX3_end, Cond.selects RX3 yX3_end yX3_end]
def wsX3_failByDue_r4 : List Cond := [Cond.code yX3_end cX3_end 3 none, Cond.fieldLink RX3 118 "FrontDoor$Call" "state" "I", Cond.fieldLink RX3 226 "FrontDoor$Call" "ended" "I", Cond.fieldLink RX3 134 "FrontDoor" "endedSoFar" "I"]
def wsX3_failByDue : List Cond := .code yX3_failByDue cX3_failByDue 4 none :: ((wsX3_failByDue_r1 ++ (wsX3_failByDue_r2 ++ (wsX3_failByDue_r3 ++ wsX3_failByDue_r4))) ++ wsX10 ++ wsX00 ++ wsX20 ++ wsX30 ++ wsJx4a65c0)
def wsX3_meetDues_r1 : List Cond := [Cond.fieldLink RX3 19 "FrontDoor" "live" "Ljava/util/ArrayList;", Cond.classLink RX3 93 "FrontDoor$Call", Cond.fieldLink RX3 287 "FrontDoor$Call" "due" "I", Cond.fieldLink RX3 95 "FrontDoor" "tick" "I", Cond.fieldLink RX3 118 "FrontDoor$Call" "state" "I", Cond.methodLink RX3 43 yJx4a65c_size_8abf5, Cond.instanceMethod yJx4a65c_size_8abf5, Cond.selects RJx4a65c yJx4a65c_size_8abf5 yJx4a65c_size_8abf5, Cond.initialized RJx4a65c, Cond.code yJx4a65c_size_8abf5 cJx4a65c_size_8abf5 1 (some .int), Cond.fieldLink RJx4a65c 48 "java/util/ArrayList" "size" "I", Cond.methodLink RX3 151 yJx4a65c_get_915e3, Cond.instanceMethod yJx4a65c_get_915e3, Cond.selects RJx4a65c yJx4a65c_get_915e3 yJx4a65c_get_915e3, Cond.code yJx4a65c_get_915e3 cJx4a65c_get_915e3 2 (some (.object "java/lang/Object")), Cond.methodLink RJx4a65c 118 yJ15_checkIndex_7cf53, Cond.static yJ15_checkIndex_7cf53, Cond.initialized RJ15, Cond.code yJ15_checkIndex_7cf53 cJ15_checkIndex_7cf53 2 (some .int), Cond.methodLink RJ15 105 yJ3_checkIndex_8e157, Cond.static yJ3_checkIndex_8e157, Cond.initialized RJ3, Cond.code yJ3_checkIndex_8e157 cJ3_checkIndex_8e157 3 (some .int), Cond.methodLink RJx4a65c 123 yJx4a65c_elementData_915e3]
def wsX3_meetDues_r2 : List Cond := [Cond.instanceMethod yJx4a65c_elementData_915e3, Cond.selects RJx4a65c yJx4a65c_elementData_915e3 yJx4a65c_elementData_915e3, Cond.code yJx4a65c_elementData_915e3 cJx4a65c_elementData_915e3 2 (some (.object "java/lang/Object")), Cond.fieldLink RJx4a65c 9 "java/util/ArrayList" "elementData" "[Ljava/lang/Object;", Cond.methodLink RX3 303 yX3_failByDue, Cond.instanceMethod yX3_failByDue, Cond.selects RX3 yX3_failByDue yX3_failByDue, Cond.initialized RX3, Cond.code yX3_failByDue cX3_failByDue 4 none, Cond.fieldLink RX3 247 "FrontDoor$Call" "first" "LFrontDoor$Asking;", Cond.fieldLink RX3 251 "FrontDoor$Call" "second" "LFrontDoor$Asking;", Cond.fieldLink RX3 267 "FrontDoor$Asking" "server" "LFrontDoor$Server;", Cond.methodLink RX3 124 yX1_callOffAll, Cond.instanceMethod yX1_callOffAll, Cond.selects RX1 yX1_callOffAll yX1_callOffAll, Cond.initialized RX1, Cond.code yX1_callOffAll cX1_callOffAll 1 none, Cond.fieldLink RX1 44 "FrontDoor$Call" "second" "LFrontDoor$Asking;", Cond.fieldLink RX1 40 "FrontDoor$Call" "first" "LFrontDoor$Asking;", Cond.methodLink RX1 62 yX1_letGo, Cond.instanceMethod yX1_letGo, Cond.selects RX1 yX1_letGo yX1_letGo, Cond.code yX1_letGo cX1_letGo 2 none, Cond.fieldLink RX1 50 "FrontDoor$Asking" "server" "LFrontDoor$Server;"]
def wsX3_meetDues_r3 : List Cond := [Cond.fieldLink RX1 59 "FrontDoor$Server" "open" "I", Cond.methodLink RX3 280 yX3_failureOf, Cond.instanceMethod yX3_failureOf, Cond.selects RX3 yX3_failureOf yX3_failureOf, Cond.code yX3_failureOf cX3_failureOf 2 none, Cond.fieldLink RX3 293 "FrontDoor$Server" "failures" "I", Cond.fieldLink RX3 83 "FrontDoor$Server" "row" "I", Cond.fieldLink RX3 63 "FrontDoor$Server" "health" "I", Cond.fieldLink RX3 33 "FrontDoor" "limitNow" "I", Cond.methodLink RX3 296 yX3_oneMoreOutIsTooMany, Cond.instanceMethod yX3_oneMoreOutIsTooMany, Cond.selects RX3 yX3_oneMoreOutIsTooMany yX3_oneMoreOutIsTooMany, Cond.code yX3_oneMoreOutIsTooMany cX3_oneMoreOutIsTooMany 5 (some .boolean), Cond.fieldLink RX3 10 "FrontDoor" "servers" "Ljava/util/ArrayList;", Cond.classLink RX3 47 "FrontDoor$Server", Cond.methodLink RX3 299 yX2_goOut, Cond.instanceMethod yX2_goOut, Cond.selects RX2 yX2_goOut yX2_goOut, Cond.initialized RX2, Cond.code yX2_goOut cX2_goOut 2 none, Cond.fieldLink RX2 30 "FrontDoor$Server" "health" "I", Cond.fieldLink RX2 33 "FrontDoor$Server" "penalty" "I", Cond.fieldLink RX2 68 "FrontDoor$Server" "until" "I", Cond.methodLink RX2 45 Lib.Math.min.name]
def wsX3_meetDues_r4 : List Cond := [Cond.static Lib.Math.min.name, Cond.initialized "java/lang/Math", Cond.code Lib.Math.min.name Lib.Math.min.code 2 (some .int), Cond.fieldLink RX2 71 "FrontDoor$Server" "outs" "I", Cond.fieldLink RX2 65 "FrontDoor$Server" "row" "I", Cond.methodLink RX3 127 yX3_end, Cond.instanceMethod yX3_end, Cond.selects RX3 yX3_end yX3_end, Cond.code yX3_end cX3_end 3 none, Cond.fieldLink RX3 226 "FrontDoor$Call" "ended" "I", Cond.fieldLink RX3 134 "FrontDoor" "endedSoFar" "I", Cond.methodLink RX3 121 yX3_leaveLine, Cond.instanceMethod yX3_leaveLine, Cond.selects RX3 yX3_leaveLine yX3_leaveLine, Cond.code yX3_leaveLine cX3_leaveLine 3 none, Cond.fieldLink RX3 22 "FrontDoor" "line" "Ljava/util/ArrayList;", Cond.fieldLink RX3 109 "FrontDoor$Call" "number" "I", Cond.methodLink RX3 223 yJx4a65c_remove_915e3, Cond.instanceMethod yJx4a65c_remove_915e3, Cond.selects RJx4a65c yJx4a65c_remove_915e3 yJx4a65c_remove_915e3, Cond.code yJx4a65c_remove_915e3 cJx4a65c_remove_915e3 4 (some (.object "java/lang/Object")), Cond.methodLink RJx4a65c 144 yJx4a65c_fastRemove_b59b0, Cond.instanceMethod yJx4a65c_fastRemove_b59b0, Cond.selects RJx4a65c yJx4a65c_fastRemove_b59b0 yJx4a65c_fastRemove_b59b0]
def wsX3_meetDues_r5 : List Cond := [Cond.code yJx4a65c_fastRemove_b59b0 cJx4a65c_fastRemove_b59b0 4 none, Cond.fieldLink RJx4a65c 63 "java/util/ArrayList" "modCount" "I", Cond.sameField "java/util/ArrayList" "java/util/AbstractList" "modCount" "I", Cond.methodLink RJx4a65c 112 arraycopyName, Cond.native arraycopyName, Cond.static arraycopyName, Cond.initialized "java/lang/System"]
def wsX3_meetDues : List Cond := .code yX3_meetDues cX3_meetDues 3 none :: ((wsX3_meetDues_r1 ++ (wsX3_meetDues_r2 ++ (wsX3_meetDues_r3 ++ (wsX3_meetDues_r4 ++ wsX3_meetDues_r5)))) ++ wsX30 ++ wsX10 ++ wsJx4a65c0 ++ wsX00 ++ wsX20)
def wsX3_tryThoseOut_r1 : List Cond := [Cond.fieldLink RX3 10 "FrontDoor" "servers" "Ljava/util/ArrayList;", Cond.classLink RX3 47 "FrontDoor$Server", Cond.fieldLink RX3 63 "FrontDoor$Server" "health" "I", Cond.fieldLink RX3 306 "FrontDoor$Server" "until" "I", Cond.fieldLink RX3 95 "FrontDoor" "tick" "I", Cond.methodLink RX3 43 yJx4a65c_size_8abf5, Cond.instanceMethod yJx4a65c_size_8abf5, Cond.selects RJx4a65c yJx4a65c_size_8abf5 yJx4a65c_size_8abf5, Cond.initialized RJx4a65c, Cond.code yJx4a65c_size_8abf5 cJx4a65c_size_8abf5 1 (some .int), Cond.fieldLink RJx4a65c 48 "java/util/ArrayList" "size" "I", Cond.methodLink RX3 151 yJx4a65c_get_915e3, Cond.instanceMethod yJx4a65c_get_915e3, Cond.selects RJx4a65c yJx4a65c_get_915e3 yJx4a65c_get_915e3, Cond.code yJx4a65c_get_915e3 cJx4a65c_get_915e3 2 (some (.object "java/lang/Object")), Cond.methodLink RJx4a65c 118 yJ15_checkIndex_7cf53, Cond.static yJ15_checkIndex_7cf53, Cond.initialized RJ15, Cond.code yJ15_checkIndex_7cf53 cJ15_checkIndex_7cf53 2 (some .int), Cond.methodLink RJ15 105 yJ3_checkIndex_8e157, Cond.static yJ3_checkIndex_8e157, Cond.initialized RJ3, Cond.code yJ3_checkIndex_8e157 cJ3_checkIndex_8e157 3 (some .int), Cond.methodLink RJx4a65c 123 yJx4a65c_elementData_915e3]
def wsX3_tryThoseOut_r2 : List Cond := [Cond.instanceMethod yJx4a65c_elementData_915e3, Cond.selects RJx4a65c yJx4a65c_elementData_915e3 yJx4a65c_elementData_915e3, Cond.code yJx4a65c_elementData_915e3 cJx4a65c_elementData_915e3 2 (some (.object "java/lang/Object")), Cond.fieldLink RJx4a65c 9 "java/util/ArrayList" "elementData" "[Ljava/lang/Object;"]
def wsX3_tryThoseOut : List Cond := .code yX3_tryThoseOut cX3_tryThoseOut 3 none :: ((wsX3_tryThoseOut_r1 ++ wsX3_tryThoseOut_r2) ++ wsX30 ++ wsX20 ++ wsJx4a65c0)
def wsX3_hedgeSlow_r1 : List Cond := [Cond.fieldLink RX3 89 "FrontDoor" "hedgeNow" "I", Cond.fieldLink RX3 19 "FrontDoor" "live" "Ljava/util/ArrayList;", Cond.classLink RX3 93 "FrontDoor$Call", Cond.fieldLink RX3 251 "FrontDoor$Call" "second" "LFrontDoor$Asking;", Cond.fieldLink RX3 247 "FrontDoor$Call" "first" "LFrontDoor$Asking;", Cond.fieldLink RX3 284 "FrontDoor$Call" "safe" "Z", Cond.fieldLink RX3 309 "FrontDoor$Asking" "since" "I", Cond.fieldLink RX3 95 "FrontDoor" "tick" "I", Cond.fieldLink RX3 202 "FrontDoor$Call" "tried" "I", Cond.fieldLink RX3 167 "FrontDoor" "seconds" "I", Cond.methodLink RX3 43 yJx4a65c_size_8abf5, Cond.instanceMethod yJx4a65c_size_8abf5, Cond.selects RJx4a65c yJx4a65c_size_8abf5 yJx4a65c_size_8abf5, Cond.initialized RJx4a65c, Cond.code yJx4a65c_size_8abf5 cJx4a65c_size_8abf5 1 (some .int), Cond.fieldLink RJx4a65c 48 "java/util/ArrayList" "size" "I", Cond.methodLink RX3 151 yJx4a65c_get_915e3, Cond.instanceMethod yJx4a65c_get_915e3, Cond.selects RJx4a65c yJx4a65c_get_915e3 yJx4a65c_get_915e3, Cond.code yJx4a65c_get_915e3 cJx4a65c_get_915e3 2 (some (.object "java/lang/Object")), Cond.methodLink RJx4a65c 118 yJ15_checkIndex_7cf53, Cond.static yJ15_checkIndex_7cf53, Cond.initialized RJ15, Cond.code yJ15_checkIndex_7cf53 cJ15_checkIndex_7cf53 2 (some .int)]
def wsX3_hedgeSlow_r2 : List Cond := [Cond.methodLink RJ15 105 yJ3_checkIndex_8e157, Cond.static yJ3_checkIndex_8e157, Cond.initialized RJ3, Cond.code yJ3_checkIndex_8e157 cJ3_checkIndex_8e157 3 (some .int), Cond.methodLink RJx4a65c 123 yJx4a65c_elementData_915e3, Cond.instanceMethod yJx4a65c_elementData_915e3, Cond.selects RJx4a65c yJx4a65c_elementData_915e3 yJx4a65c_elementData_915e3, Cond.code yJx4a65c_elementData_915e3 cJx4a65c_elementData_915e3 2 (some (.object "java/lang/Object")), Cond.fieldLink RJx4a65c 9 "java/util/ArrayList" "elementData" "[Ljava/lang/Object;", Cond.methodLink RX3 179 yX3_byFewest, Cond.instanceMethod yX3_byFewest, Cond.selects RX3 yX3_byFewest yX3_byFewest, Cond.initialized RX3, Cond.code yX3_byFewest cX3_byFewest 7 (some (.object "FrontDoor$Server")), Cond.fieldLink RX3 10 "FrontDoor" "servers" "Ljava/util/ArrayList;", Cond.classLink RX3 47 "FrontDoor$Server", Cond.fieldLink RX3 192 "FrontDoor$Server" "zone" "I", Cond.fieldLink RX3 80 "FrontDoor$Server" "open" "I", Cond.fieldLink RX3 189 "FrontDoor$Server" "weight" "I", Cond.methodLink RX3 182 yX2_mayBeAsked, Cond.instanceMethod yX2_mayBeAsked, Cond.selects RX2 yX2_mayBeAsked yX2_mayBeAsked, Cond.initialized RX2, Cond.code yX2_mayBeAsked cX2_mayBeAsked 2 (some .boolean)]
def wsX3_hedgeSlow_r3 : List Cond := [Cond.fieldLink RX2 9 "FrontDoor$Server" "number" "I", Cond.fieldLink RX2 36 "FrontDoor$Server" "open" "I", Cond.fieldLink RX2 21 "FrontDoor$Server" "room" "I", Cond.fieldLink RX2 30 "FrontDoor$Server" "health" "I", Cond.methodLink RX3 209 yX2_takeAsking, Cond.instanceMethod yX2_takeAsking, Cond.selects RX2 yX2_takeAsking yX2_takeAsking, Cond.code yX2_takeAsking cX2_takeAsking 4 (some (.object "FrontDoor$Asking")), Cond.fieldLink RX2 51 "FrontDoor$Server" "asked" "I", Cond.fieldLink RX2 54 "FrontDoor$Server" "mute" "I", Cond.fieldLink RX2 24 "FrontDoor$Server" "pace" "I", Cond.fieldLink RX2 27 "FrontDoor$Server" "breaks" "I", Cond.classLink RX2 57 RX0, Cond.instantiable RX0 4, Cond.initialized RX0, Cond.methodLink RX2 59 yX0_init, Cond.instanceMethod yX0_init, Cond.code yX0_init cX0_init 5 none, Cond.methodLink RX0 1 objectInit, Cond.instanceMethod objectInit, Cond.code objectInit ⟨#[0xb1]⟩ 1 none, Cond.fieldLink RX0 7 "FrontDoor$Asking" "server" "LFrontDoor$Server;", Cond.fieldLink RX0 13 "FrontDoor$Asking" "since" "I", Cond.fieldLink RX0 17 "FrontDoor$Asking" "over" "I"]
def wsX3_hedgeSlow_r4 : List Cond := [Cond.fieldLink RX0 20 "FrontDoor$Asking" "fails" "Z", Cond.methodLink RX3 213 yX1_begin, Cond.instanceMethod yX1_begin, Cond.selects RX1 yX1_begin yX1_begin, Cond.initialized RX1, Cond.code yX1_begin cX1_begin 2 none, Cond.fieldLink RX1 40 "FrontDoor$Call" "first" "LFrontDoor$Asking;", Cond.fieldLink RX1 44 "FrontDoor$Call" "second" "LFrontDoor$Asking;", Cond.fieldLink RX1 47 "FrontDoor$Call" "tried" "I", Cond.fieldLink RX1 50 "FrontDoor$Asking" "server" "LFrontDoor$Server;", Cond.fieldLink RX1 56 "FrontDoor$Server" "number" "I", Cond.fieldLink RX1 31 "FrontDoor$Call" "state" "I"]
def wsX3_hedgeSlow : List Cond := .code yX3_hedgeSlow cX3_hedgeSlow 5 none :: ((wsX3_hedgeSlow_r1 ++ (wsX3_hedgeSlow_r2 ++ (wsX3_hedgeSlow_r3 ++ wsX3_hedgeSlow_r4))) ++ wsX30 ++ wsX10 ++ wsX00 ++ wsJx4a65c0 ++ wsX20)
def wsX3_askQueued_r1 : List Cond := [Cond.fieldLink RX3 22 "FrontDoor" "line" "Ljava/util/ArrayList;", Cond.classLink RX3 93 "FrontDoor$Call", Cond.methodLink RX3 43 yJx4a65c_size_8abf5, Cond.instanceMethod yJx4a65c_size_8abf5, Cond.selects RJx4a65c yJx4a65c_size_8abf5 yJx4a65c_size_8abf5, Cond.initialized RJx4a65c, Cond.code yJx4a65c_size_8abf5 cJx4a65c_size_8abf5 1 (some .int), Cond.fieldLink RJx4a65c 48 "java/util/ArrayList" "size" "I", Cond.methodLink RX3 151 yJx4a65c_get_915e3, Cond.instanceMethod yJx4a65c_get_915e3, Cond.selects RJx4a65c yJx4a65c_get_915e3 yJx4a65c_get_915e3, Cond.code yJx4a65c_get_915e3 cJx4a65c_get_915e3 2 (some (.object "java/lang/Object")), Cond.methodLink RJx4a65c 118 yJ15_checkIndex_7cf53, Cond.static yJ15_checkIndex_7cf53, Cond.initialized RJ15, Cond.code yJ15_checkIndex_7cf53 cJ15_checkIndex_7cf53 2 (some .int), Cond.methodLink RJ15 105 yJ3_checkIndex_8e157, Cond.static yJ3_checkIndex_8e157, Cond.initialized RJ3, Cond.code yJ3_checkIndex_8e157 cJ3_checkIndex_8e157 3 (some .int), Cond.methodLink RJx4a65c 123 yJx4a65c_elementData_915e3, Cond.instanceMethod yJx4a65c_elementData_915e3, Cond.selects RJx4a65c yJx4a65c_elementData_915e3 yJx4a65c_elementData_915e3, Cond.code yJx4a65c_elementData_915e3 cJx4a65c_elementData_915e3 2 (some (.object "java/lang/Object"))]
def wsX3_askQueued_r2 : List Cond := [Cond.fieldLink RJx4a65c 9 "java/util/ArrayList" "elementData" "[Ljava/lang/Object;", Cond.methodLink RX3 101 yX3_askByRule, Cond.instanceMethod yX3_askByRule, Cond.selects RX3 yX3_askByRule yX3_askByRule, Cond.initialized RX3, Cond.code yX3_askByRule cX3_askByRule 3 (some .boolean), Cond.fieldLink RX3 199 "FrontDoor$Call" "key" "I", Cond.fieldLink RX3 202 "FrontDoor$Call" "tried" "I", Cond.fieldLink RX3 29 "FrontDoor" "ruleNow" "I", Cond.fieldLink RX3 95 "FrontDoor" "tick" "I", Cond.methodLink RX3 140 yX3_chosen, Cond.instanceMethod yX3_chosen, Cond.selects RX3 yX3_chosen yX3_chosen, Cond.code yX3_chosen cX3_chosen 4 (some (.object "FrontDoor$Server")), Cond.methodLink RX3 173 yX3_byTurn, Cond.instanceMethod yX3_byTurn, Cond.selects RX3 yX3_byTurn yX3_byTurn, Cond.code yX3_byTurn cX3_byTurn 5 (some (.object "FrontDoor$Server")), Cond.fieldLink RX3 10 "FrontDoor" "servers" "Ljava/util/ArrayList;", Cond.classLink RX3 47 "FrontDoor$Server", Cond.fieldLink RX3 186 "FrontDoor$Server" "credit" "I", Cond.fieldLink RX3 189 "FrontDoor$Server" "weight" "I", Cond.methodLink RX3 182 yX2_mayBeAsked, Cond.instanceMethod yX2_mayBeAsked]
def wsX3_askQueued_r3 : List Cond := [Cond.selects RX2 yX2_mayBeAsked yX2_mayBeAsked, Cond.initialized RX2, Cond.code yX2_mayBeAsked cX2_mayBeAsked 2 (some .boolean), Cond.fieldLink RX2 9 "FrontDoor$Server" "number" "I", Cond.fieldLink RX2 36 "FrontDoor$Server" "open" "I", Cond.fieldLink RX2 21 "FrontDoor$Server" "room" "I", Cond.fieldLink RX2 30 "FrontDoor$Server" "health" "I", Cond.methodLink RX3 176 yX3_byRing, Cond.instanceMethod yX3_byRing, Cond.selects RX3 yX3_byRing yX3_byRing, Cond.code yX3_byRing cX3_byRing 7 (some (.object "FrontDoor$Server")), Cond.constant RX3 195 (65536), Cond.methodLink RX3 196 yX2_wayFrom, Cond.instanceMethod yX2_wayFrom, Cond.selects RX2 yX2_wayFrom yX2_wayFrom, Cond.code yX2_wayFrom cX2_wayFrom 4 (some .int), Cond.constant RX2 40 (65535), Cond.methodLink RX2 45 Lib.Math.min.name, Cond.static Lib.Math.min.name, Cond.initialized "java/lang/Math", Cond.code Lib.Math.min.name Lib.Math.min.code 2 (some .int), Cond.methodLink RX2 41 yX2_placeOfMark, Cond.instanceMethod yX2_placeOfMark, Cond.selects RX2 yX2_placeOfMark yX2_placeOfMark]
def wsX3_askQueued_r4 : List Cond := [Cond.code yX2_placeOfMark cX2_placeOfMark 2 (some .int), Cond.constant RX2 39 (40503), Cond.methodLink RX3 179 yX3_byFewest, Cond.instanceMethod yX3_byFewest, Cond.selects RX3 yX3_byFewest yX3_byFewest, Cond.code yX3_byFewest cX3_byFewest 7 (some (.object "FrontDoor$Server")), Cond.fieldLink RX3 192 "FrontDoor$Server" "zone" "I", Cond.fieldLink RX3 80 "FrontDoor$Server" "open" "I", Cond.methodLink RX3 205 yX3_settleCredits, Cond.instanceMethod yX3_settleCredits, Cond.selects RX3 yX3_settleCredits yX3_settleCredits, Cond.code yX3_settleCredits cX3_settleCredits 6 none, Cond.methodLink RX3 209 yX2_takeAsking, Cond.instanceMethod yX2_takeAsking, Cond.selects RX2 yX2_takeAsking yX2_takeAsking, Cond.code yX2_takeAsking cX2_takeAsking 4 (some (.object "FrontDoor$Asking")), Cond.fieldLink RX2 51 "FrontDoor$Server" "asked" "I", Cond.fieldLink RX2 54 "FrontDoor$Server" "mute" "I", Cond.fieldLink RX2 24 "FrontDoor$Server" "pace" "I", Cond.fieldLink RX2 27 "FrontDoor$Server" "breaks" "I", Cond.classLink RX2 57 RX0, Cond.instantiable RX0 4, Cond.initialized RX0, Cond.methodLink RX2 59 yX0_init]
def wsX3_askQueued_r5 : List Cond := [Cond.instanceMethod yX0_init, Cond.code yX0_init cX0_init 5 none, Cond.methodLink RX0 1 objectInit, Cond.instanceMethod objectInit, Cond.code objectInit ⟨#[0xb1]⟩ 1 none, Cond.fieldLink RX0 7 "FrontDoor$Asking" "server" "LFrontDoor$Server;", Cond.fieldLink RX0 13 "FrontDoor$Asking" "since" "I", Cond.fieldLink RX0 17 "FrontDoor$Asking" "over" "I", Cond.fieldLink RX0 20 "FrontDoor$Asking" "fails" "Z", Cond.methodLink RX3 213 yX1_begin, Cond.instanceMethod yX1_begin, Cond.selects RX1 yX1_begin yX1_begin, Cond.initialized RX1, Cond.code yX1_begin cX1_begin 2 none, Cond.fieldLink RX1 40 "FrontDoor$Call" "first" "LFrontDoor$Asking;", Cond.fieldLink RX1 44 "FrontDoor$Call" "second" "LFrontDoor$Asking;", Cond.fieldLink RX1 47 "FrontDoor$Call" "tried" "I", Cond.fieldLink RX1 50 "FrontDoor$Asking" "server" "LFrontDoor$Server;", Cond.fieldLink RX1 56 "FrontDoor$Server" "number" "I", Cond.fieldLink RX1 31 "FrontDoor$Call" "state" "I", Cond.methodLink RX3 223 yJx4a65c_remove_915e3, Cond.instanceMethod yJx4a65c_remove_915e3, Cond.selects RJx4a65c yJx4a65c_remove_915e3 yJx4a65c_remove_915e3, Cond.code yJx4a65c_remove_915e3 cJx4a65c_remove_915e3 4 (some (.object "java/lang/Object"))]
def wsX3_askQueued_r6 : List Cond := [Cond.methodLink RJx4a65c 144 yJx4a65c_fastRemove_b59b0, Cond.instanceMethod yJx4a65c_fastRemove_b59b0, Cond.selects RJx4a65c yJx4a65c_fastRemove_b59b0 yJx4a65c_fastRemove_b59b0, Cond.code yJx4a65c_fastRemove_b59b0 cJx4a65c_fastRemove_b59b0 4 none, Cond.fieldLink RJx4a65c 63 "java/util/ArrayList" "modCount" "I", Cond.sameField "java/util/ArrayList" "java/util/AbstractList" "modCount" "I", Cond.methodLink RJx4a65c 112 arraycopyName, Cond.native arraycopyName, Cond.static arraycopyName, Cond.initialized "java/lang/System"]
def wsX3_askQueued : List Cond := .code yX3_askQueued cX3_askQueued 4 none :: ((wsX3_askQueued_r1 ++ (wsX3_askQueued_r2 ++ (wsX3_askQueued_r3 ++ (wsX3_askQueued_r4 ++ (wsX3_askQueued_r5 ++ wsX3_askQueued_r6))))) ++ wsX30 ++ wsJx4a65c0 ++ wsX10 ++ wsX20 ++ wsX00)
def wsX3_letDrainedGo_r1 : List Cond := [Cond.fieldLink RX3 10 "FrontDoor" "servers" "Ljava/util/ArrayList;", Cond.classLink RX3 47 "FrontDoor$Server", Cond.fieldLink RX3 63 "FrontDoor$Server" "health" "I", Cond.fieldLink RX3 80 "FrontDoor$Server" "open" "I", Cond.methodLink RX3 43 yJx4a65c_size_8abf5, Cond.instanceMethod yJx4a65c_size_8abf5, Cond.selects RJx4a65c yJx4a65c_size_8abf5 yJx4a65c_size_8abf5, Cond.initialized RJx4a65c, Cond.code yJx4a65c_size_8abf5 cJx4a65c_size_8abf5 1 (some .int), Cond.fieldLink RJx4a65c 48 "java/util/ArrayList" "size" "I", Cond.methodLink RX3 151 yJx4a65c_get_915e3, Cond.instanceMethod yJx4a65c_get_915e3, Cond.selects RJx4a65c yJx4a65c_get_915e3 yJx4a65c_get_915e3, Cond.code yJx4a65c_get_915e3 cJx4a65c_get_915e3 2 (some (.object "java/lang/Object")), Cond.methodLink RJx4a65c 118 yJ15_checkIndex_7cf53, Cond.static yJ15_checkIndex_7cf53, Cond.initialized RJ15, Cond.code yJ15_checkIndex_7cf53 cJ15_checkIndex_7cf53 2 (some .int), Cond.methodLink RJ15 105 yJ3_checkIndex_8e157, Cond.static yJ3_checkIndex_8e157, Cond.initialized RJ3, Cond.code yJ3_checkIndex_8e157 cJ3_checkIndex_8e157 3 (some .int), Cond.methodLink RJx4a65c 123 yJx4a65c_elementData_915e3, Cond.instanceMethod yJx4a65c_elementData_915e3]
def wsX3_letDrainedGo_r2 : List Cond := [Cond.selects RJx4a65c yJx4a65c_elementData_915e3 yJx4a65c_elementData_915e3, Cond.code yJx4a65c_elementData_915e3 cJx4a65c_elementData_915e3 2 (some (.object "java/lang/Object")), Cond.fieldLink RJx4a65c 9 "java/util/ArrayList" "elementData" "[Ljava/lang/Object;"]
def wsX3_letDrainedGo : List Cond := .code yX3_letDrainedGo cX3_letDrainedGo 3 none :: ((wsX3_letDrainedGo_r1 ++ wsX3_letDrainedGo_r2) ++ wsX30 ++ wsX20 ++ wsJx4a65c0)
def wsX3_passTick_r1 : List Cond := [Cond.fieldLink RX3 95 "FrontDoor" "tick" "I", Cond.methodLink RX3 229 yX3_takeWhatIsOver, Cond.instanceMethod yX3_takeWhatIsOver, Cond.selects RX3 yX3_takeWhatIsOver yX3_takeWhatIsOver, Cond.initialized RX3, Cond.code yX3_takeWhatIsOver cX3_takeWhatIsOver 5 none, Cond.fieldLink RX3 19 "FrontDoor" "live" "Ljava/util/ArrayList;", Cond.classLink RX3 93 "FrontDoor$Call", Cond.fieldLink RX3 247 "FrontDoor$Call" "first" "LFrontDoor$Asking;", Cond.fieldLink RX3 251 "FrontDoor$Call" "second" "LFrontDoor$Asking;", Cond.fieldLink RX3 254 "FrontDoor$Asking" "over" "I", Cond.fieldLink RX3 118 "FrontDoor$Call" "state" "I", Cond.methodLink RX3 43 yJx4a65c_size_8abf5, Cond.instanceMethod yJx4a65c_size_8abf5, Cond.selects RJx4a65c yJx4a65c_size_8abf5 yJx4a65c_size_8abf5, Cond.initialized RJx4a65c, Cond.code yJx4a65c_size_8abf5 cJx4a65c_size_8abf5 1 (some .int), Cond.fieldLink RJx4a65c 48 "java/util/ArrayList" "size" "I", Cond.methodLink RX3 151 yJx4a65c_get_915e3, Cond.instanceMethod yJx4a65c_get_915e3, Cond.selects RJx4a65c yJx4a65c_get_915e3 yJx4a65c_get_915e3, Cond.code yJx4a65c_get_915e3 cJx4a65c_get_915e3 2 (some (.object "java/lang/Object")), Cond.methodLink RJx4a65c 118 yJ15_checkIndex_7cf53, Cond.static yJ15_checkIndex_7cf53]
def wsX3_passTick_r2 : List Cond := [Cond.initialized RJ15, Cond.code yJ15_checkIndex_7cf53 cJ15_checkIndex_7cf53 2 (some .int), Cond.methodLink RJ15 105 yJ3_checkIndex_8e157, Cond.static yJ3_checkIndex_8e157, Cond.initialized RJ3, Cond.code yJ3_checkIndex_8e157 cJ3_checkIndex_8e157 3 (some .int), Cond.methodLink RJx4a65c 123 yJx4a65c_elementData_915e3, Cond.instanceMethod yJx4a65c_elementData_915e3, Cond.selects RJx4a65c yJx4a65c_elementData_915e3 yJx4a65c_elementData_915e3, Cond.code yJx4a65c_elementData_915e3 cJx4a65c_elementData_915e3 2 (some (.object "java/lang/Object")), Cond.fieldLink RJx4a65c 9 "java/util/ArrayList" "elementData" "[Ljava/lang/Object;", Cond.methodLink RX3 259 yX3_takeAnswer, Cond.instanceMethod yX3_takeAnswer, Cond.selects RX3 yX3_takeAnswer yX3_takeAnswer, Cond.code yX3_takeAnswer cX3_takeAnswer 3 none, Cond.fieldLink RX3 263 "FrontDoor$Asking" "fails" "Z", Cond.fieldLink RX3 267 "FrontDoor$Asking" "server" "LFrontDoor$Server;", Cond.fieldLink RX3 56 "FrontDoor$Server" "number" "I", Cond.fieldLink RX3 274 "FrontDoor$Call" "answerer" "I", Cond.fieldLink RX3 284 "FrontDoor$Call" "safe" "Z", Cond.fieldLink RX3 287 "FrontDoor$Call" "due" "I", Cond.fieldLink RX3 164 "FrontDoor" "agains" "I", Cond.methodLink RX3 271 yX2_answer, Cond.instanceMethod yX2_answer]
def wsX3_passTick_r3 : List Cond := [Cond.selects RX2 yX2_answer yX2_answer, Cond.initialized RX2, Cond.code yX2_answer cX2_answer 1 none, Cond.fieldLink RX2 62 "FrontDoor$Server" "answers" "I", Cond.fieldLink RX2 65 "FrontDoor$Server" "row" "I", Cond.fieldLink RX2 33 "FrontDoor$Server" "penalty" "I", Cond.fieldLink RX2 30 "FrontDoor$Server" "health" "I", Cond.methodLink RX3 124 yX1_callOffAll, Cond.instanceMethod yX1_callOffAll, Cond.selects RX1 yX1_callOffAll yX1_callOffAll, Cond.initialized RX1, Cond.code yX1_callOffAll cX1_callOffAll 1 none, Cond.fieldLink RX1 44 "FrontDoor$Call" "second" "LFrontDoor$Asking;", Cond.fieldLink RX1 40 "FrontDoor$Call" "first" "LFrontDoor$Asking;", Cond.methodLink RX1 62 yX1_letGo, Cond.instanceMethod yX1_letGo, Cond.selects RX1 yX1_letGo yX1_letGo, Cond.code yX1_letGo cX1_letGo 2 none, Cond.fieldLink RX1 50 "FrontDoor$Asking" "server" "LFrontDoor$Server;", Cond.fieldLink RX1 59 "FrontDoor$Server" "open" "I", Cond.methodLink RX3 127 yX3_end, Cond.instanceMethod yX3_end, Cond.selects RX3 yX3_end yX3_end, Cond.code yX3_end cX3_end 3 none]
def wsX3_passTick_r4 : List Cond := [Cond.fieldLink RX3 226 "FrontDoor$Call" "ended" "I", Cond.fieldLink RX3 134 "FrontDoor" "endedSoFar" "I", Cond.methodLink RX3 277 yX1_letGo, Cond.methodLink RX3 280 yX3_failureOf, Cond.instanceMethod yX3_failureOf, Cond.selects RX3 yX3_failureOf yX3_failureOf, Cond.code yX3_failureOf cX3_failureOf 2 none, Cond.fieldLink RX3 293 "FrontDoor$Server" "failures" "I", Cond.fieldLink RX3 83 "FrontDoor$Server" "row" "I", Cond.fieldLink RX3 63 "FrontDoor$Server" "health" "I", Cond.fieldLink RX3 33 "FrontDoor" "limitNow" "I", Cond.methodLink RX3 296 yX3_oneMoreOutIsTooMany, Cond.instanceMethod yX3_oneMoreOutIsTooMany, Cond.selects RX3 yX3_oneMoreOutIsTooMany yX3_oneMoreOutIsTooMany, Cond.code yX3_oneMoreOutIsTooMany cX3_oneMoreOutIsTooMany 5 (some .boolean), Cond.fieldLink RX3 10 "FrontDoor" "servers" "Ljava/util/ArrayList;", Cond.classLink RX3 47 "FrontDoor$Server", Cond.methodLink RX3 299 yX2_goOut, Cond.instanceMethod yX2_goOut, Cond.selects RX2 yX2_goOut yX2_goOut, Cond.code yX2_goOut cX2_goOut 2 none, Cond.fieldLink RX2 68 "FrontDoor$Server" "until" "I", Cond.methodLink RX2 45 Lib.Math.min.name, Cond.static Lib.Math.min.name]
def wsX3_passTick_r5 : List Cond := [Cond.initialized "java/lang/Math", Cond.code Lib.Math.min.name Lib.Math.min.code 2 (some .int), Cond.fieldLink RX2 71 "FrontDoor$Server" "outs" "I", Cond.methodLink RX3 290 yX3_budgetHolds, Cond.instanceMethod yX3_budgetHolds, Cond.selects RX3 yX3_budgetHolds yX3_budgetHolds, Cond.code yX3_budgetHolds cX3_budgetHolds 1 (some .boolean), Cond.fieldLink RX3 36 "FrontDoor" "budgetNow" "I", Cond.fieldLink RX3 16 "FrontDoor" "calls" "Ljava/util/ArrayList;", Cond.methodLink RX3 105 yX3_joinLine, Cond.instanceMethod yX3_joinLine, Cond.selects RX3 yX3_joinLine yX3_joinLine, Cond.code yX3_joinLine cX3_joinLine 3 none, Cond.fieldLink RX3 22 "FrontDoor" "line" "Ljava/util/ArrayList;", Cond.methodLink RX3 217 yX1_goesAheadOf, Cond.instanceMethod yX1_goesAheadOf, Cond.selects RX1 yX1_goesAheadOf yX1_goesAheadOf, Cond.code yX1_goesAheadOf cX1_goesAheadOf 2 (some .boolean), Cond.fieldLink RX1 18 "FrontDoor$Call" "grade" "I", Cond.fieldLink RX1 24 "FrontDoor$Call" "due" "I", Cond.fieldLink RX1 9 "FrontDoor$Call" "number" "I", Cond.methodLink RX3 220 yJx4a65c_add_7a177, Cond.instanceMethod yJx4a65c_add_7a177, Cond.selects RJx4a65c yJx4a65c_add_7a177 yJx4a65c_add_7a177]
def wsX3_passTick_r6 : List Cond := [Cond.code yJx4a65c_add_7a177 cJx4a65c_add_7a177 5 none, Cond.fieldLink RJx4a65c 63 "java/util/ArrayList" "modCount" "I", Cond.sameField "java/util/ArrayList" "java/util/AbstractList" "modCount" "I", Cond.methodLink RJx4a65c 112 arraycopyName, Cond.native arraycopyName, Cond.static arraycopyName, Cond.initialized "java/lang/System", Cond.methodLink RJx4a65c 135 yJx4a65c_rangeCheckForAdd_d00df, Cond.instanceMethod yJx4a65c_rangeCheckForAdd_d00df, Cond.selects RJx4a65c yJx4a65c_rangeCheckForAdd_d00df yJx4a65c_rangeCheckForAdd_d00df, Cond.code yJx4a65c_rangeCheckForAdd_d00df cJx4a65c_rangeCheckForAdd_d00df 2 none, Cond.methodLink RJx4a65c 129 yJx4a65c_grow_d5877, Cond.instanceMethod yJx4a65c_grow_d5877, Cond.selects RJx4a65c yJx4a65c_grow_d5877 yJx4a65c_grow_d5877, Cond.code yJx4a65c_grow_d5877 cJx4a65c_grow_d5877 1 (some (.array (.object "java/lang/Object"))), Cond.methodLink RJx4a65c 69 yJx4a65c_grow_92f84, Cond.instanceMethod yJx4a65c_grow_92f84, Cond.selects RJx4a65c yJx4a65c_grow_92f84 yJx4a65c_grow_92f84, Cond.code yJx4a65c_grow_92f84 cJx4a65c_grow_92f84 4 (some (.array (.object "java/lang/Object"))), Cond.fieldLink RJx4a65c 39 "java/util/ArrayList" "DEFAULTCAPACITY_EMPTY_ELEMENTDATA" "[Ljava/lang/Object;", Cond.methodLink RJx4a65c 79 Lib.Math.max.name, Cond.static Lib.Math.max.name, Cond.code Lib.Math.max.name Lib.Math.max.code 2 (some .int), Cond.classLink RJx4a65c 7 "java/lang/Object"]
def wsX3_passTick_r7 : List Cond := [Cond.methodLink RJx4a65c 73 yJ8_newLength_cabcc, Cond.static yJ8_newLength_cabcc, Cond.initialized RJ8, Cond.code yJ8_newLength_cabcc cJ8_newLength_cabcc 4 (some .int), Cond.methodLink RJ8 194 Lib.Math.max.name, Cond.constant RJ8 200 (2147483639), Cond.methodLink RJ8 201 yJ8_hugeLength_7cf53, Cond.static yJ8_hugeLength_7cf53, Cond.code yJ8_hugeLength_7cf53 cJ8_hugeLength_7cf53 3 (some .int), Cond.methodLink RJx4a65c 66 yJ7_copyOf_1904c, Cond.static yJ7_copyOf_1904c, Cond.initialized RJ7, Cond.code yJ7_copyOf_1904c cJ7_copyOf_1904c 2 (some (.array (.object "java/lang/Object"))), Cond.methodLink RJ7 86 ⟨"java/lang/Object", "getClass", "()Ljava/lang/Class;"⟩, Cond.selects "[Ljava/lang/Object;" ⟨"java/lang/Object", "getClass", "()Ljava/lang/Class;"⟩ ⟨"java/lang/Object", "getClass", "()Ljava/lang/Class;"⟩, Cond.instanceMethod ⟨"java/lang/Object", "getClass", "()Ljava/lang/Class;"⟩, Cond.native ⟨"java/lang/Object", "getClass", "()Ljava/lang/Class;"⟩, Cond.methodLink RJ7 300 yJ7_copyOf_6403c, Cond.static yJ7_copyOf_6403c, Cond.code yJ7_copyOf_6403c cJ7_copyOf_6403c 4 (some (.array (.object "java/lang/Object"))), Cond.classLink RJ7 110 "[Ljava/lang/Object;", Cond.classLink RJ7 2 "java/lang/Object", Cond.methodLink RJ7 304 Lib.Math.min.name, Cond.methodLink RJ7 150 arraycopyName]
def wsX3_passTick_r8 : List Cond := [Cond.methodLink RX3 232 yX3_meetDues, Cond.instanceMethod yX3_meetDues, Cond.selects RX3 yX3_meetDues yX3_meetDues, Cond.code yX3_meetDues cX3_meetDues 3 none, Cond.methodLink RX3 303 yX3_failByDue, Cond.instanceMethod yX3_failByDue, Cond.selects RX3 yX3_failByDue yX3_failByDue, Cond.code yX3_failByDue cX3_failByDue 4 none, Cond.methodLink RX3 121 yX3_leaveLine, Cond.instanceMethod yX3_leaveLine, Cond.selects RX3 yX3_leaveLine yX3_leaveLine, Cond.code yX3_leaveLine cX3_leaveLine 3 none, Cond.fieldLink RX3 109 "FrontDoor$Call" "number" "I", Cond.methodLink RX3 223 yJx4a65c_remove_915e3, Cond.instanceMethod yJx4a65c_remove_915e3, Cond.selects RJx4a65c yJx4a65c_remove_915e3 yJx4a65c_remove_915e3, Cond.code yJx4a65c_remove_915e3 cJx4a65c_remove_915e3 4 (some (.object "java/lang/Object")), Cond.methodLink RJx4a65c 144 yJx4a65c_fastRemove_b59b0, Cond.instanceMethod yJx4a65c_fastRemove_b59b0, Cond.selects RJx4a65c yJx4a65c_fastRemove_b59b0 yJx4a65c_fastRemove_b59b0, Cond.code yJx4a65c_fastRemove_b59b0 cJx4a65c_fastRemove_b59b0 4 none, Cond.methodLink RX3 131 yX3_dropEnded, Cond.instanceMethod yX3_dropEnded, Cond.selects RX3 yX3_dropEnded yX3_dropEnded]
def wsX3_passTick_r9 : List Cond := [Cond.code yX3_dropEnded cX3_dropEnded 2 none, Cond.methodLink RX3 114 yX1_hasEnded, Cond.instanceMethod yX1_hasEnded, Cond.selects RX1 yX1_hasEnded yX1_hasEnded, Cond.code yX1_hasEnded cX1_hasEnded 1 (some .boolean), Cond.fieldLink RX1 31 "FrontDoor$Call" "state" "I", Cond.methodLink RX3 235 yX3_tryThoseOut, Cond.instanceMethod yX3_tryThoseOut, Cond.selects RX3 yX3_tryThoseOut yX3_tryThoseOut, Cond.code yX3_tryThoseOut cX3_tryThoseOut 3 none, Cond.fieldLink RX3 306 "FrontDoor$Server" "until" "I", Cond.methodLink RX3 238 yX3_hedgeSlow, Cond.instanceMethod yX3_hedgeSlow, Cond.selects RX3 yX3_hedgeSlow yX3_hedgeSlow, Cond.code yX3_hedgeSlow cX3_hedgeSlow 5 none, Cond.fieldLink RX3 89 "FrontDoor" "hedgeNow" "I", Cond.fieldLink RX3 309 "FrontDoor$Asking" "since" "I", Cond.fieldLink RX3 202 "FrontDoor$Call" "tried" "I", Cond.fieldLink RX3 167 "FrontDoor" "seconds" "I", Cond.methodLink RX3 179 yX3_byFewest, Cond.instanceMethod yX3_byFewest, Cond.selects RX3 yX3_byFewest yX3_byFewest, Cond.code yX3_byFewest cX3_byFewest 7 (some (.object "FrontDoor$Server")), Cond.fieldLink RX3 192 "FrontDoor$Server" "zone" "I"]
def wsX3_passTick_r10 : List Cond := [Cond.fieldLink RX3 80 "FrontDoor$Server" "open" "I", Cond.fieldLink RX3 189 "FrontDoor$Server" "weight" "I", Cond.methodLink RX3 182 yX2_mayBeAsked, Cond.instanceMethod yX2_mayBeAsked, Cond.selects RX2 yX2_mayBeAsked yX2_mayBeAsked, Cond.code yX2_mayBeAsked cX2_mayBeAsked 2 (some .boolean), Cond.fieldLink RX2 9 "FrontDoor$Server" "number" "I", Cond.fieldLink RX2 36 "FrontDoor$Server" "open" "I", Cond.fieldLink RX2 21 "FrontDoor$Server" "room" "I", Cond.methodLink RX3 209 yX2_takeAsking, Cond.instanceMethod yX2_takeAsking, Cond.selects RX2 yX2_takeAsking yX2_takeAsking, Cond.code yX2_takeAsking cX2_takeAsking 4 (some (.object "FrontDoor$Asking")), Cond.fieldLink RX2 51 "FrontDoor$Server" "asked" "I", Cond.fieldLink RX2 54 "FrontDoor$Server" "mute" "I", Cond.fieldLink RX2 24 "FrontDoor$Server" "pace" "I", Cond.fieldLink RX2 27 "FrontDoor$Server" "breaks" "I", Cond.classLink RX2 57 RX0, Cond.instantiable RX0 4, Cond.initialized RX0, Cond.methodLink RX2 59 yX0_init, Cond.instanceMethod yX0_init, Cond.code yX0_init cX0_init 5 none, Cond.methodLink RX0 1 objectInit]
def wsX3_passTick_r11 : List Cond := [Cond.instanceMethod objectInit, Cond.code objectInit ⟨#[0xb1]⟩ 1 none, Cond.fieldLink RX0 7 "FrontDoor$Asking" "server" "LFrontDoor$Server;", Cond.fieldLink RX0 13 "FrontDoor$Asking" "since" "I", Cond.fieldLink RX0 17 "FrontDoor$Asking" "over" "I", Cond.fieldLink RX0 20 "FrontDoor$Asking" "fails" "Z", Cond.methodLink RX3 213 yX1_begin, Cond.instanceMethod yX1_begin, Cond.selects RX1 yX1_begin yX1_begin, Cond.code yX1_begin cX1_begin 2 none, Cond.fieldLink RX1 47 "FrontDoor$Call" "tried" "I", Cond.fieldLink RX1 56 "FrontDoor$Server" "number" "I", Cond.methodLink RX3 241 yX3_askQueued, Cond.instanceMethod yX3_askQueued, Cond.selects RX3 yX3_askQueued yX3_askQueued, Cond.code yX3_askQueued cX3_askQueued 4 none, Cond.methodLink RX3 101 yX3_askByRule, Cond.instanceMethod yX3_askByRule, Cond.selects RX3 yX3_askByRule yX3_askByRule, Cond.code yX3_askByRule cX3_askByRule 3 (some .boolean), Cond.fieldLink RX3 199 "FrontDoor$Call" "key" "I", Cond.fieldLink RX3 29 "FrontDoor" "ruleNow" "I", Cond.methodLink RX3 140 yX3_chosen, Cond.instanceMethod yX3_chosen]
def wsX3_passTick_r12 : List Cond := [Cond.selects RX3 yX3_chosen yX3_chosen, Cond.code yX3_chosen cX3_chosen 4 (some (.object "FrontDoor$Server")), Cond.methodLink RX3 173 yX3_byTurn, Cond.instanceMethod yX3_byTurn, Cond.selects RX3 yX3_byTurn yX3_byTurn, Cond.code yX3_byTurn cX3_byTurn 5 (some (.object "FrontDoor$Server")), Cond.fieldLink RX3 186 "FrontDoor$Server" "credit" "I", Cond.methodLink RX3 176 yX3_byRing, Cond.instanceMethod yX3_byRing, Cond.selects RX3 yX3_byRing yX3_byRing, Cond.code yX3_byRing cX3_byRing 7 (some (.object "FrontDoor$Server")), Cond.constant RX3 195 (65536), Cond.methodLink RX3 196 yX2_wayFrom, Cond.instanceMethod yX2_wayFrom, Cond.selects RX2 yX2_wayFrom yX2_wayFrom, Cond.code yX2_wayFrom cX2_wayFrom 4 (some .int), Cond.constant RX2 40 (65535), Cond.methodLink RX2 41 yX2_placeOfMark, Cond.instanceMethod yX2_placeOfMark, Cond.selects RX2 yX2_placeOfMark yX2_placeOfMark, Cond.code yX2_placeOfMark cX2_placeOfMark 2 (some .int), Cond.constant RX2 39 (40503), Cond.methodLink RX3 205 yX3_settleCredits, Cond.instanceMethod yX3_settleCredits]
def wsX3_passTick_r13 : List Cond := [Cond.selects RX3 yX3_settleCredits yX3_settleCredits, Cond.code yX3_settleCredits cX3_settleCredits 6 none, Cond.methodLink RX3 244 yX3_letDrainedGo, Cond.instanceMethod yX3_letDrainedGo, Cond.selects RX3 yX3_letDrainedGo yX3_letDrainedGo, Cond.code yX3_letDrainedGo cX3_letDrainedGo 3 none]
def wsX3_passTick : List Cond := .code yX3_passTick cX3_passTick 1 none :: ((wsX3_passTick_r1 ++ (wsX3_passTick_r2 ++ (wsX3_passTick_r3 ++ (wsX3_passTick_r4 ++ (wsX3_passTick_r5 ++ (wsX3_passTick_r6 ++ (wsX3_passTick_r7 ++ (wsX3_passTick_r8 ++ (wsX3_passTick_r9 ++ (wsX3_passTick_r10 ++ (wsX3_passTick_r11 ++ (wsX3_passTick_r12 ++ wsX3_passTick_r13)))))))))))) ++ wsX30 ++ wsX10 ++ wsX00 ++ wsJx4a65c0 ++ wsX20)
def wsX3_ticks_r1 : List Cond := [Cond.fieldLink RX3 95 "FrontDoor" "tick" "I", Cond.fieldLink RX3 134 "FrontDoor" "endedSoFar" "I", Cond.methodLink RX3 72 yX3_faultOf, Cond.static yX3_faultOf, Cond.initialized RX3, Cond.code yX3_faultOf cX3_faultOf 3 (some .int), Cond.methodLink RX3 39 yX3_refuse, Cond.instanceMethod yX3_refuse, Cond.selects RX3 yX3_refuse yX3_refuse, Cond.code yX3_refuse cX3_refuse 3 (some .int), Cond.fieldLink RX3 25 "FrontDoor" "refusals" "[I", Cond.methodLink RX3 137 yX3_passTick, Cond.instanceMethod yX3_passTick, Cond.selects RX3 yX3_passTick yX3_passTick, Cond.code yX3_passTick cX3_passTick 1 none, Cond.methodLink RX3 229 yX3_takeWhatIsOver, Cond.instanceMethod yX3_takeWhatIsOver, Cond.selects RX3 yX3_takeWhatIsOver yX3_takeWhatIsOver, Cond.code yX3_takeWhatIsOver cX3_takeWhatIsOver 5 none, Cond.fieldLink RX3 19 "FrontDoor" "live" "Ljava/util/ArrayList;", Cond.classLink RX3 93 "FrontDoor$Call", Cond.fieldLink RX3 247 "FrontDoor$Call" "first" "LFrontDoor$Asking;", Cond.fieldLink RX3 251 "FrontDoor$Call" "second" "LFrontDoor$Asking;", Cond.fieldLink RX3 254 "FrontDoor$Asking" "over" "I"]
def wsX3_ticks_r2 : List Cond := [Cond.fieldLink RX3 118 "FrontDoor$Call" "state" "I", Cond.methodLink RX3 43 yJx4a65c_size_8abf5, Cond.instanceMethod yJx4a65c_size_8abf5, Cond.selects RJx4a65c yJx4a65c_size_8abf5 yJx4a65c_size_8abf5, Cond.initialized RJx4a65c, Cond.code yJx4a65c_size_8abf5 cJx4a65c_size_8abf5 1 (some .int), Cond.fieldLink RJx4a65c 48 "java/util/ArrayList" "size" "I", Cond.methodLink RX3 151 yJx4a65c_get_915e3, Cond.instanceMethod yJx4a65c_get_915e3, Cond.selects RJx4a65c yJx4a65c_get_915e3 yJx4a65c_get_915e3, Cond.code yJx4a65c_get_915e3 cJx4a65c_get_915e3 2 (some (.object "java/lang/Object")), Cond.methodLink RJx4a65c 118 yJ15_checkIndex_7cf53, Cond.static yJ15_checkIndex_7cf53, Cond.initialized RJ15, Cond.code yJ15_checkIndex_7cf53 cJ15_checkIndex_7cf53 2 (some .int), Cond.methodLink RJ15 105 yJ3_checkIndex_8e157, Cond.static yJ3_checkIndex_8e157, Cond.initialized RJ3, Cond.code yJ3_checkIndex_8e157 cJ3_checkIndex_8e157 3 (some .int), Cond.methodLink RJx4a65c 123 yJx4a65c_elementData_915e3, Cond.instanceMethod yJx4a65c_elementData_915e3, Cond.selects RJx4a65c yJx4a65c_elementData_915e3 yJx4a65c_elementData_915e3, Cond.code yJx4a65c_elementData_915e3 cJx4a65c_elementData_915e3 2 (some (.object "java/lang/Object")), Cond.fieldLink RJx4a65c 9 "java/util/ArrayList" "elementData" "[Ljava/lang/Object;"]
def wsX3_ticks_r3 : List Cond := [Cond.methodLink RX3 259 yX3_takeAnswer, Cond.instanceMethod yX3_takeAnswer, Cond.selects RX3 yX3_takeAnswer yX3_takeAnswer, Cond.code yX3_takeAnswer cX3_takeAnswer 3 none, Cond.fieldLink RX3 263 "FrontDoor$Asking" "fails" "Z", Cond.fieldLink RX3 267 "FrontDoor$Asking" "server" "LFrontDoor$Server;", Cond.fieldLink RX3 56 "FrontDoor$Server" "number" "I", Cond.fieldLink RX3 274 "FrontDoor$Call" "answerer" "I", Cond.fieldLink RX3 284 "FrontDoor$Call" "safe" "Z", Cond.fieldLink RX3 287 "FrontDoor$Call" "due" "I", Cond.fieldLink RX3 164 "FrontDoor" "agains" "I", Cond.methodLink RX3 271 yX2_answer, Cond.instanceMethod yX2_answer, Cond.selects RX2 yX2_answer yX2_answer, Cond.initialized RX2, Cond.code yX2_answer cX2_answer 1 none, Cond.fieldLink RX2 62 "FrontDoor$Server" "answers" "I", Cond.fieldLink RX2 65 "FrontDoor$Server" "row" "I", Cond.fieldLink RX2 33 "FrontDoor$Server" "penalty" "I", Cond.fieldLink RX2 30 "FrontDoor$Server" "health" "I", Cond.methodLink RX3 124 yX1_callOffAll, Cond.instanceMethod yX1_callOffAll, Cond.selects RX1 yX1_callOffAll yX1_callOffAll, Cond.initialized RX1]
def wsX3_ticks_r4 : List Cond := [Cond.code yX1_callOffAll cX1_callOffAll 1 none, Cond.fieldLink RX1 44 "FrontDoor$Call" "second" "LFrontDoor$Asking;", Cond.fieldLink RX1 40 "FrontDoor$Call" "first" "LFrontDoor$Asking;", Cond.methodLink RX1 62 yX1_letGo, Cond.instanceMethod yX1_letGo, Cond.selects RX1 yX1_letGo yX1_letGo, Cond.code yX1_letGo cX1_letGo 2 none, Cond.fieldLink RX1 50 "FrontDoor$Asking" "server" "LFrontDoor$Server;", Cond.fieldLink RX1 59 "FrontDoor$Server" "open" "I", Cond.methodLink RX3 127 yX3_end, Cond.instanceMethod yX3_end, Cond.selects RX3 yX3_end yX3_end, Cond.code yX3_end cX3_end 3 none, Cond.fieldLink RX3 226 "FrontDoor$Call" "ended" "I", Cond.methodLink RX3 277 yX1_letGo, Cond.methodLink RX3 280 yX3_failureOf, Cond.instanceMethod yX3_failureOf, Cond.selects RX3 yX3_failureOf yX3_failureOf, Cond.code yX3_failureOf cX3_failureOf 2 none, Cond.fieldLink RX3 293 "FrontDoor$Server" "failures" "I", Cond.fieldLink RX3 83 "FrontDoor$Server" "row" "I", Cond.fieldLink RX3 63 "FrontDoor$Server" "health" "I", Cond.fieldLink RX3 33 "FrontDoor" "limitNow" "I", Cond.methodLink RX3 296 yX3_oneMoreOutIsTooMany]
def wsX3_ticks_r5 : List Cond := [Cond.instanceMethod yX3_oneMoreOutIsTooMany, Cond.selects RX3 yX3_oneMoreOutIsTooMany yX3_oneMoreOutIsTooMany, Cond.code yX3_oneMoreOutIsTooMany cX3_oneMoreOutIsTooMany 5 (some .boolean), Cond.fieldLink RX3 10 "FrontDoor" "servers" "Ljava/util/ArrayList;", Cond.classLink RX3 47 "FrontDoor$Server", Cond.methodLink RX3 299 yX2_goOut, Cond.instanceMethod yX2_goOut, Cond.selects RX2 yX2_goOut yX2_goOut, Cond.code yX2_goOut cX2_goOut 2 none, Cond.fieldLink RX2 68 "FrontDoor$Server" "until" "I", Cond.methodLink RX2 45 Lib.Math.min.name, Cond.static Lib.Math.min.name, Cond.initialized "java/lang/Math", Cond.code Lib.Math.min.name Lib.Math.min.code 2 (some .int), Cond.fieldLink RX2 71 "FrontDoor$Server" "outs" "I", Cond.methodLink RX3 290 yX3_budgetHolds, Cond.instanceMethod yX3_budgetHolds, Cond.selects RX3 yX3_budgetHolds yX3_budgetHolds, Cond.code yX3_budgetHolds cX3_budgetHolds 1 (some .boolean), Cond.fieldLink RX3 36 "FrontDoor" "budgetNow" "I", Cond.fieldLink RX3 16 "FrontDoor" "calls" "Ljava/util/ArrayList;", Cond.methodLink RX3 105 yX3_joinLine, Cond.instanceMethod yX3_joinLine, Cond.selects RX3 yX3_joinLine yX3_joinLine]
def wsX3_ticks_r6 : List Cond := [Cond.code yX3_joinLine cX3_joinLine 3 none, Cond.fieldLink RX3 22 "FrontDoor" "line" "Ljava/util/ArrayList;", Cond.methodLink RX3 217 yX1_goesAheadOf, Cond.instanceMethod yX1_goesAheadOf, Cond.selects RX1 yX1_goesAheadOf yX1_goesAheadOf, Cond.code yX1_goesAheadOf cX1_goesAheadOf 2 (some .boolean), Cond.fieldLink RX1 18 "FrontDoor$Call" "grade" "I", Cond.fieldLink RX1 24 "FrontDoor$Call" "due" "I", Cond.fieldLink RX1 9 "FrontDoor$Call" "number" "I", Cond.methodLink RX3 220 yJx4a65c_add_7a177, Cond.instanceMethod yJx4a65c_add_7a177, Cond.selects RJx4a65c yJx4a65c_add_7a177 yJx4a65c_add_7a177, Cond.code yJx4a65c_add_7a177 cJx4a65c_add_7a177 5 none, Cond.fieldLink RJx4a65c 63 "java/util/ArrayList" "modCount" "I", Cond.sameField "java/util/ArrayList" "java/util/AbstractList" "modCount" "I", Cond.methodLink RJx4a65c 112 arraycopyName, Cond.native arraycopyName, Cond.static arraycopyName, Cond.initialized "java/lang/System", Cond.methodLink RJx4a65c 135 yJx4a65c_rangeCheckForAdd_d00df, Cond.instanceMethod yJx4a65c_rangeCheckForAdd_d00df, Cond.selects RJx4a65c yJx4a65c_rangeCheckForAdd_d00df yJx4a65c_rangeCheckForAdd_d00df, Cond.code yJx4a65c_rangeCheckForAdd_d00df cJx4a65c_rangeCheckForAdd_d00df 2 none, Cond.methodLink RJx4a65c 129 yJx4a65c_grow_d5877]
def wsX3_ticks_r7 : List Cond := [Cond.instanceMethod yJx4a65c_grow_d5877, Cond.selects RJx4a65c yJx4a65c_grow_d5877 yJx4a65c_grow_d5877, Cond.code yJx4a65c_grow_d5877 cJx4a65c_grow_d5877 1 (some (.array (.object "java/lang/Object"))), Cond.methodLink RJx4a65c 69 yJx4a65c_grow_92f84, Cond.instanceMethod yJx4a65c_grow_92f84, Cond.selects RJx4a65c yJx4a65c_grow_92f84 yJx4a65c_grow_92f84, Cond.code yJx4a65c_grow_92f84 cJx4a65c_grow_92f84 4 (some (.array (.object "java/lang/Object"))), Cond.fieldLink RJx4a65c 39 "java/util/ArrayList" "DEFAULTCAPACITY_EMPTY_ELEMENTDATA" "[Ljava/lang/Object;", Cond.methodLink RJx4a65c 79 Lib.Math.max.name, Cond.static Lib.Math.max.name, Cond.code Lib.Math.max.name Lib.Math.max.code 2 (some .int), Cond.classLink RJx4a65c 7 "java/lang/Object", Cond.methodLink RJx4a65c 73 yJ8_newLength_cabcc, Cond.static yJ8_newLength_cabcc, Cond.initialized RJ8, Cond.code yJ8_newLength_cabcc cJ8_newLength_cabcc 4 (some .int), Cond.methodLink RJ8 194 Lib.Math.max.name, Cond.constant RJ8 200 (2147483639), Cond.methodLink RJ8 201 yJ8_hugeLength_7cf53, Cond.static yJ8_hugeLength_7cf53, Cond.code yJ8_hugeLength_7cf53 cJ8_hugeLength_7cf53 3 (some .int), Cond.methodLink RJx4a65c 66 yJ7_copyOf_1904c, Cond.static yJ7_copyOf_1904c, Cond.initialized RJ7]
def wsX3_ticks_r8 : List Cond := [Cond.code yJ7_copyOf_1904c cJ7_copyOf_1904c 2 (some (.array (.object "java/lang/Object"))), Cond.methodLink RJ7 86 ⟨"java/lang/Object", "getClass", "()Ljava/lang/Class;"⟩, Cond.selects "[Ljava/lang/Object;" ⟨"java/lang/Object", "getClass", "()Ljava/lang/Class;"⟩ ⟨"java/lang/Object", "getClass", "()Ljava/lang/Class;"⟩, Cond.instanceMethod ⟨"java/lang/Object", "getClass", "()Ljava/lang/Class;"⟩, Cond.native ⟨"java/lang/Object", "getClass", "()Ljava/lang/Class;"⟩, Cond.methodLink RJ7 300 yJ7_copyOf_6403c, Cond.static yJ7_copyOf_6403c, Cond.code yJ7_copyOf_6403c cJ7_copyOf_6403c 4 (some (.array (.object "java/lang/Object"))), Cond.classLink RJ7 110 "[Ljava/lang/Object;", Cond.classLink RJ7 2 "java/lang/Object", Cond.methodLink RJ7 304 Lib.Math.min.name, Cond.methodLink RJ7 150 arraycopyName, Cond.methodLink RX3 232 yX3_meetDues, Cond.instanceMethod yX3_meetDues, Cond.selects RX3 yX3_meetDues yX3_meetDues, Cond.code yX3_meetDues cX3_meetDues 3 none, Cond.methodLink RX3 303 yX3_failByDue, Cond.instanceMethod yX3_failByDue, Cond.selects RX3 yX3_failByDue yX3_failByDue, Cond.code yX3_failByDue cX3_failByDue 4 none, Cond.methodLink RX3 121 yX3_leaveLine, Cond.instanceMethod yX3_leaveLine, Cond.selects RX3 yX3_leaveLine yX3_leaveLine, Cond.code yX3_leaveLine cX3_leaveLine 3 none]
def wsX3_ticks_r9 : List Cond := [Cond.fieldLink RX3 109 "FrontDoor$Call" "number" "I", Cond.methodLink RX3 223 yJx4a65c_remove_915e3, Cond.instanceMethod yJx4a65c_remove_915e3, Cond.selects RJx4a65c yJx4a65c_remove_915e3 yJx4a65c_remove_915e3, Cond.code yJx4a65c_remove_915e3 cJx4a65c_remove_915e3 4 (some (.object "java/lang/Object")), Cond.methodLink RJx4a65c 144 yJx4a65c_fastRemove_b59b0, Cond.instanceMethod yJx4a65c_fastRemove_b59b0, Cond.selects RJx4a65c yJx4a65c_fastRemove_b59b0 yJx4a65c_fastRemove_b59b0, Cond.code yJx4a65c_fastRemove_b59b0 cJx4a65c_fastRemove_b59b0 4 none, Cond.methodLink RX3 131 yX3_dropEnded, Cond.instanceMethod yX3_dropEnded, Cond.selects RX3 yX3_dropEnded yX3_dropEnded, Cond.code yX3_dropEnded cX3_dropEnded 2 none, Cond.methodLink RX3 114 yX1_hasEnded, Cond.instanceMethod yX1_hasEnded, Cond.selects RX1 yX1_hasEnded yX1_hasEnded, Cond.code yX1_hasEnded cX1_hasEnded 1 (some .boolean), Cond.fieldLink RX1 31 "FrontDoor$Call" "state" "I", Cond.methodLink RX3 235 yX3_tryThoseOut, Cond.instanceMethod yX3_tryThoseOut, Cond.selects RX3 yX3_tryThoseOut yX3_tryThoseOut, Cond.code yX3_tryThoseOut cX3_tryThoseOut 3 none, Cond.fieldLink RX3 306 "FrontDoor$Server" "until" "I", Cond.methodLink RX3 238 yX3_hedgeSlow]
def wsX3_ticks_r10 : List Cond := [Cond.instanceMethod yX3_hedgeSlow, Cond.selects RX3 yX3_hedgeSlow yX3_hedgeSlow, Cond.code yX3_hedgeSlow cX3_hedgeSlow 5 none, Cond.fieldLink RX3 89 "FrontDoor" "hedgeNow" "I", Cond.fieldLink RX3 309 "FrontDoor$Asking" "since" "I", Cond.fieldLink RX3 202 "FrontDoor$Call" "tried" "I", Cond.fieldLink RX3 167 "FrontDoor" "seconds" "I", Cond.methodLink RX3 179 yX3_byFewest, Cond.instanceMethod yX3_byFewest, Cond.selects RX3 yX3_byFewest yX3_byFewest, Cond.code yX3_byFewest cX3_byFewest 7 (some (.object "FrontDoor$Server")), Cond.fieldLink RX3 192 "FrontDoor$Server" "zone" "I", Cond.fieldLink RX3 80 "FrontDoor$Server" "open" "I", Cond.fieldLink RX3 189 "FrontDoor$Server" "weight" "I", Cond.methodLink RX3 182 yX2_mayBeAsked, Cond.instanceMethod yX2_mayBeAsked, Cond.selects RX2 yX2_mayBeAsked yX2_mayBeAsked, Cond.code yX2_mayBeAsked cX2_mayBeAsked 2 (some .boolean), Cond.fieldLink RX2 9 "FrontDoor$Server" "number" "I", Cond.fieldLink RX2 36 "FrontDoor$Server" "open" "I", Cond.fieldLink RX2 21 "FrontDoor$Server" "room" "I", Cond.methodLink RX3 209 yX2_takeAsking, Cond.instanceMethod yX2_takeAsking, Cond.selects RX2 yX2_takeAsking yX2_takeAsking]
def wsX3_ticks_r11 : List Cond := [Cond.code yX2_takeAsking cX2_takeAsking 4 (some (.object "FrontDoor$Asking")), Cond.fieldLink RX2 51 "FrontDoor$Server" "asked" "I", Cond.fieldLink RX2 54 "FrontDoor$Server" "mute" "I", Cond.fieldLink RX2 24 "FrontDoor$Server" "pace" "I", Cond.fieldLink RX2 27 "FrontDoor$Server" "breaks" "I", Cond.classLink RX2 57 RX0, Cond.instantiable RX0 4, Cond.initialized RX0, Cond.methodLink RX2 59 yX0_init, Cond.instanceMethod yX0_init, Cond.code yX0_init cX0_init 5 none, Cond.methodLink RX0 1 objectInit, Cond.instanceMethod objectInit, Cond.code objectInit ⟨#[0xb1]⟩ 1 none, Cond.fieldLink RX0 7 "FrontDoor$Asking" "server" "LFrontDoor$Server;", Cond.fieldLink RX0 13 "FrontDoor$Asking" "since" "I", Cond.fieldLink RX0 17 "FrontDoor$Asking" "over" "I", Cond.fieldLink RX0 20 "FrontDoor$Asking" "fails" "Z", Cond.methodLink RX3 213 yX1_begin, Cond.instanceMethod yX1_begin, Cond.selects RX1 yX1_begin yX1_begin, Cond.code yX1_begin cX1_begin 2 none, Cond.fieldLink RX1 47 "FrontDoor$Call" "tried" "I", Cond.fieldLink RX1 56 "FrontDoor$Server" "number" "I"]
def wsX3_ticks_r12 : List Cond := [Cond.methodLink RX3 241 yX3_askQueued, Cond.instanceMethod yX3_askQueued, Cond.selects RX3 yX3_askQueued yX3_askQueued, Cond.code yX3_askQueued cX3_askQueued 4 none, Cond.methodLink RX3 101 yX3_askByRule, Cond.instanceMethod yX3_askByRule, Cond.selects RX3 yX3_askByRule yX3_askByRule, Cond.code yX3_askByRule cX3_askByRule 3 (some .boolean), Cond.fieldLink RX3 199 "FrontDoor$Call" "key" "I", Cond.fieldLink RX3 29 "FrontDoor" "ruleNow" "I", Cond.methodLink RX3 140 yX3_chosen, Cond.instanceMethod yX3_chosen, Cond.selects RX3 yX3_chosen yX3_chosen, Cond.code yX3_chosen cX3_chosen 4 (some (.object "FrontDoor$Server")), Cond.methodLink RX3 173 yX3_byTurn, Cond.instanceMethod yX3_byTurn, Cond.selects RX3 yX3_byTurn yX3_byTurn, Cond.code yX3_byTurn cX3_byTurn 5 (some (.object "FrontDoor$Server")), Cond.fieldLink RX3 186 "FrontDoor$Server" "credit" "I", Cond.methodLink RX3 176 yX3_byRing, Cond.instanceMethod yX3_byRing, Cond.selects RX3 yX3_byRing yX3_byRing, Cond.code yX3_byRing cX3_byRing 7 (some (.object "FrontDoor$Server")), Cond.constant RX3 195 (65536)]
def wsX3_ticks_r13 : List Cond := [Cond.methodLink RX3 196 yX2_wayFrom, Cond.instanceMethod yX2_wayFrom, Cond.selects RX2 yX2_wayFrom yX2_wayFrom, Cond.code yX2_wayFrom cX2_wayFrom 4 (some .int), Cond.constant RX2 40 (65535), Cond.methodLink RX2 41 yX2_placeOfMark, Cond.instanceMethod yX2_placeOfMark, Cond.selects RX2 yX2_placeOfMark yX2_placeOfMark, Cond.code yX2_placeOfMark cX2_placeOfMark 2 (some .int), Cond.constant RX2 39 (40503), Cond.methodLink RX3 205 yX3_settleCredits, Cond.instanceMethod yX3_settleCredits, Cond.selects RX3 yX3_settleCredits yX3_settleCredits, Cond.code yX3_settleCredits cX3_settleCredits 6 none, Cond.methodLink RX3 244 yX3_letDrainedGo, Cond.instanceMethod yX3_letDrainedGo, Cond.selects RX3 yX3_letDrainedGo yX3_letDrainedGo, Cond.code yX3_letDrainedGo cX3_letDrainedGo 3 none]
def wsX3_ticks : List Cond := .code yX3_ticks cX3_ticks 5 (some .int) :: ((wsX3_ticks_r1 ++ (wsX3_ticks_r2 ++ (wsX3_ticks_r3 ++ (wsX3_ticks_r4 ++ (wsX3_ticks_r5 ++ (wsX3_ticks_r6 ++ (wsX3_ticks_r7 ++ (wsX3_ticks_r8 ++ (wsX3_ticks_r9 ++ (wsX3_ticks_r10 ++ (wsX3_ticks_r11 ++ (wsX3_ticks_r12 ++ wsX3_ticks_r13)))))))))))) ++ wsX30 ++ wsX10 ++ wsX00 ++ wsJx4a65c0 ++ wsX20)
def wsX3_pick_r1 : List Cond := [Cond.constant RX3 92 (65535), Cond.fieldLink RX3 56 "FrontDoor$Server" "number" "I", Cond.methodLink RX3 72 yX3_faultOf, Cond.static yX3_faultOf, Cond.initialized RX3, Cond.code yX3_faultOf cX3_faultOf 3 (some .int), Cond.methodLink RX3 39 yX3_refuse, Cond.instanceMethod yX3_refuse, Cond.selects RX3 yX3_refuse yX3_refuse, Cond.code yX3_refuse cX3_refuse 3 (some .int), Cond.fieldLink RX3 25 "FrontDoor" "refusals" "[I", Cond.methodLink RX3 140 yX3_chosen, Cond.instanceMethod yX3_chosen, Cond.selects RX3 yX3_chosen yX3_chosen, Cond.code yX3_chosen cX3_chosen 4 (some (.object "FrontDoor$Server")), Cond.fieldLink RX3 29 "FrontDoor" "ruleNow" "I", Cond.methodLink RX3 173 yX3_byTurn, Cond.instanceMethod yX3_byTurn, Cond.selects RX3 yX3_byTurn yX3_byTurn, Cond.code yX3_byTurn cX3_byTurn 5 (some (.object "FrontDoor$Server")), Cond.fieldLink RX3 10 "FrontDoor" "servers" "Ljava/util/ArrayList;", Cond.classLink RX3 47 "FrontDoor$Server", Cond.fieldLink RX3 186 "FrontDoor$Server" "credit" "I", Cond.fieldLink RX3 189 "FrontDoor$Server" "weight" "I"]
def wsX3_pick_r2 : List Cond := [Cond.methodLink RX3 43 yJx4a65c_size_8abf5, Cond.instanceMethod yJx4a65c_size_8abf5, Cond.selects RJx4a65c yJx4a65c_size_8abf5 yJx4a65c_size_8abf5, Cond.initialized RJx4a65c, Cond.code yJx4a65c_size_8abf5 cJx4a65c_size_8abf5 1 (some .int), Cond.fieldLink RJx4a65c 48 "java/util/ArrayList" "size" "I", Cond.methodLink RX3 151 yJx4a65c_get_915e3, Cond.instanceMethod yJx4a65c_get_915e3, Cond.selects RJx4a65c yJx4a65c_get_915e3 yJx4a65c_get_915e3, Cond.code yJx4a65c_get_915e3 cJx4a65c_get_915e3 2 (some (.object "java/lang/Object")), Cond.methodLink RJx4a65c 118 yJ15_checkIndex_7cf53, Cond.static yJ15_checkIndex_7cf53, Cond.initialized RJ15, Cond.code yJ15_checkIndex_7cf53 cJ15_checkIndex_7cf53 2 (some .int), Cond.methodLink RJ15 105 yJ3_checkIndex_8e157, Cond.static yJ3_checkIndex_8e157, Cond.initialized RJ3, Cond.code yJ3_checkIndex_8e157 cJ3_checkIndex_8e157 3 (some .int), Cond.methodLink RJx4a65c 123 yJx4a65c_elementData_915e3, Cond.instanceMethod yJx4a65c_elementData_915e3, Cond.selects RJx4a65c yJx4a65c_elementData_915e3 yJx4a65c_elementData_915e3, Cond.code yJx4a65c_elementData_915e3 cJx4a65c_elementData_915e3 2 (some (.object "java/lang/Object")), Cond.fieldLink RJx4a65c 9 "java/util/ArrayList" "elementData" "[Ljava/lang/Object;", Cond.methodLink RX3 182 yX2_mayBeAsked]
def wsX3_pick_r3 : List Cond := [Cond.instanceMethod yX2_mayBeAsked, Cond.selects RX2 yX2_mayBeAsked yX2_mayBeAsked, Cond.initialized RX2, Cond.code yX2_mayBeAsked cX2_mayBeAsked 2 (some .boolean), Cond.fieldLink RX2 9 "FrontDoor$Server" "number" "I", Cond.fieldLink RX2 36 "FrontDoor$Server" "open" "I", Cond.fieldLink RX2 21 "FrontDoor$Server" "room" "I", Cond.fieldLink RX2 30 "FrontDoor$Server" "health" "I", Cond.methodLink RX3 176 yX3_byRing, Cond.instanceMethod yX3_byRing, Cond.selects RX3 yX3_byRing yX3_byRing, Cond.code yX3_byRing cX3_byRing 7 (some (.object "FrontDoor$Server")), Cond.constant RX3 195 (65536), Cond.methodLink RX3 196 yX2_wayFrom, Cond.instanceMethod yX2_wayFrom, Cond.selects RX2 yX2_wayFrom yX2_wayFrom, Cond.code yX2_wayFrom cX2_wayFrom 4 (some .int), Cond.constant RX2 40 (65535), Cond.methodLink RX2 45 Lib.Math.min.name, Cond.static Lib.Math.min.name, Cond.initialized "java/lang/Math", Cond.code Lib.Math.min.name Lib.Math.min.code 2 (some .int), Cond.methodLink RX2 41 yX2_placeOfMark, Cond.instanceMethod yX2_placeOfMark]
def wsX3_pick_r4 : List Cond := [Cond.selects RX2 yX2_placeOfMark yX2_placeOfMark, Cond.code yX2_placeOfMark cX2_placeOfMark 2 (some .int), Cond.constant RX2 39 (40503), Cond.methodLink RX3 179 yX3_byFewest, Cond.instanceMethod yX3_byFewest, Cond.selects RX3 yX3_byFewest yX3_byFewest, Cond.code yX3_byFewest cX3_byFewest 7 (some (.object "FrontDoor$Server")), Cond.fieldLink RX3 192 "FrontDoor$Server" "zone" "I", Cond.fieldLink RX3 80 "FrontDoor$Server" "open" "I"]
def wsX3_pick : List Cond := .code yX3_pick cX3_pick 4 (some .int) :: ((wsX3_pick_r1 ++ (wsX3_pick_r2 ++ (wsX3_pick_r3 ++ wsX3_pick_r4))) ++ wsX20 ++ wsX30 ++ wsJx4a65c0)
def wsX3_callOf_r1 : List Cond := [Cond.methodLink RX3 110 yX3_callAt, Cond.instanceMethod yX3_callAt, Cond.selects RX3 yX3_callAt yX3_callAt, Cond.initialized RX3, Cond.code yX3_callAt cX3_callAt 2 (some (.object "FrontDoor$Call")), Cond.fieldLink RX3 16 "FrontDoor" "calls" "Ljava/util/ArrayList;", Cond.classLink RX3 93 "FrontDoor$Call", Cond.methodLink RX3 43 yJx4a65c_size_8abf5, Cond.instanceMethod yJx4a65c_size_8abf5, Cond.selects RJx4a65c yJx4a65c_size_8abf5 yJx4a65c_size_8abf5, Cond.initialized RJx4a65c, Cond.code yJx4a65c_size_8abf5 cJx4a65c_size_8abf5 1 (some .int), Cond.fieldLink RJx4a65c 48 "java/util/ArrayList" "size" "I", Cond.methodLink RX3 151 yJx4a65c_get_915e3, Cond.instanceMethod yJx4a65c_get_915e3, Cond.selects RJx4a65c yJx4a65c_get_915e3 yJx4a65c_get_915e3, Cond.code yJx4a65c_get_915e3 cJx4a65c_get_915e3 2 (some (.object "java/lang/Object")), Cond.methodLink RJx4a65c 118 yJ15_checkIndex_7cf53, Cond.static yJ15_checkIndex_7cf53, Cond.initialized RJ15, Cond.code yJ15_checkIndex_7cf53 cJ15_checkIndex_7cf53 2 (some .int), Cond.methodLink RJ15 105 yJ3_checkIndex_8e157, Cond.static yJ3_checkIndex_8e157, Cond.initialized RJ3]
def wsX3_callOf_r2 : List Cond := [Cond.code yJ3_checkIndex_8e157 cJ3_checkIndex_8e157 3 (some .int), Cond.methodLink RJx4a65c 123 yJx4a65c_elementData_915e3, Cond.instanceMethod yJx4a65c_elementData_915e3, Cond.selects RJx4a65c yJx4a65c_elementData_915e3 yJx4a65c_elementData_915e3, Cond.code yJx4a65c_elementData_915e3 cJx4a65c_elementData_915e3 2 (some (.object "java/lang/Object")), Cond.fieldLink RJx4a65c 9 "java/util/ArrayList" "elementData" "[Ljava/lang/Object;", Cond.methodLink RX3 39 yX3_refuse, Cond.instanceMethod yX3_refuse, Cond.selects RX3 yX3_refuse yX3_refuse, Cond.code yX3_refuse cX3_refuse 3 (some .int), Cond.fieldLink RX3 25 "FrontDoor" "refusals" "[I", Cond.methodLink RX3 144 yX1_tell, Cond.instanceMethod yX1_tell, Cond.selects RX1 yX1_tell yX1_tell, Cond.initialized RX1, Cond.code yX1_tell cX1_tell 2 (some .int), Cond.fieldLink RX1 31 "FrontDoor$Call" "state" "I", Cond.fieldLink RX1 15 "FrontDoor$Call" "key" "I", Cond.fieldLink RX1 18 "FrontDoor$Call" "grade" "I", Cond.fieldLink RX1 24 "FrontDoor$Call" "due" "I", Cond.fieldLink RX1 27 "FrontDoor$Call" "safe" "Z", Cond.fieldLink RX1 40 "FrontDoor$Call" "first" "LFrontDoor$Asking;", Cond.fieldLink RX1 44 "FrontDoor$Call" "second" "LFrontDoor$Asking;", Cond.fieldLink RX1 37 "FrontDoor$Call" "answerer" "I"]
def wsX3_callOf_r3 : List Cond := [Cond.fieldLink RX1 50 "FrontDoor$Asking" "server" "LFrontDoor$Server;", Cond.fieldLink RX1 56 "FrontDoor$Server" "number" "I", Cond.fieldLink RX1 47 "FrontDoor$Call" "tried" "I", Cond.fieldLink RX1 21 "FrontDoor$Call" "came" "I", Cond.fieldLink RX1 34 "FrontDoor$Call" "ended" "I"]
def wsX3_callOf : List Cond := .code yX3_callOf cX3_callOf 4 (some .int) :: ((wsX3_callOf_r1 ++ (wsX3_callOf_r2 ++ wsX3_callOf_r3)) ++ wsX30 ++ wsJx4a65c0 ++ wsX10 ++ wsX00 ++ wsX20)
def wsX3_serverOf_r1 : List Cond := [Cond.methodLink RX3 59 yX3_serverAt, Cond.instanceMethod yX3_serverAt, Cond.selects RX3 yX3_serverAt yX3_serverAt, Cond.initialized RX3, Cond.code yX3_serverAt cX3_serverAt 2 (some (.object "FrontDoor$Server")), Cond.fieldLink RX3 10 "FrontDoor" "servers" "Ljava/util/ArrayList;", Cond.classLink RX3 47 "FrontDoor$Server", Cond.methodLink RX3 43 yJx4a65c_size_8abf5, Cond.instanceMethod yJx4a65c_size_8abf5, Cond.selects RJx4a65c yJx4a65c_size_8abf5 yJx4a65c_size_8abf5, Cond.initialized RJx4a65c, Cond.code yJx4a65c_size_8abf5 cJx4a65c_size_8abf5 1 (some .int), Cond.fieldLink RJx4a65c 48 "java/util/ArrayList" "size" "I", Cond.methodLink RX3 151 yJx4a65c_get_915e3, Cond.instanceMethod yJx4a65c_get_915e3, Cond.selects RJx4a65c yJx4a65c_get_915e3 yJx4a65c_get_915e3, Cond.code yJx4a65c_get_915e3 cJx4a65c_get_915e3 2 (some (.object "java/lang/Object")), Cond.methodLink RJx4a65c 118 yJ15_checkIndex_7cf53, Cond.static yJ15_checkIndex_7cf53, Cond.initialized RJ15, Cond.code yJ15_checkIndex_7cf53 cJ15_checkIndex_7cf53 2 (some .int), Cond.methodLink RJ15 105 yJ3_checkIndex_8e157, Cond.static yJ3_checkIndex_8e157, Cond.initialized RJ3]
def wsX3_serverOf_r2 : List Cond := [Cond.code yJ3_checkIndex_8e157 cJ3_checkIndex_8e157 3 (some .int), Cond.methodLink RJx4a65c 123 yJx4a65c_elementData_915e3, Cond.instanceMethod yJx4a65c_elementData_915e3, Cond.selects RJx4a65c yJx4a65c_elementData_915e3 yJx4a65c_elementData_915e3, Cond.code yJx4a65c_elementData_915e3 cJx4a65c_elementData_915e3 2 (some (.object "java/lang/Object")), Cond.fieldLink RJx4a65c 9 "java/util/ArrayList" "elementData" "[Ljava/lang/Object;", Cond.methodLink RX3 39 yX3_refuse, Cond.instanceMethod yX3_refuse, Cond.selects RX3 yX3_refuse yX3_refuse, Cond.code yX3_refuse cX3_refuse 3 (some .int), Cond.fieldLink RX3 25 "FrontDoor" "refusals" "[I", Cond.methodLink RX3 147 yX2_tell, Cond.instanceMethod yX2_tell, Cond.selects RX2 yX2_tell yX2_tell, Cond.initialized RX2, Cond.code yX2_tell cX2_tell 2 (some .int), Cond.fieldLink RX2 30 "FrontDoor$Server" "health" "I", Cond.fieldLink RX2 36 "FrontDoor$Server" "open" "I", Cond.fieldLink RX2 51 "FrontDoor$Server" "asked" "I", Cond.fieldLink RX2 62 "FrontDoor$Server" "answers" "I", Cond.fieldLink RX2 77 "FrontDoor$Server" "failures" "I", Cond.fieldLink RX2 65 "FrontDoor$Server" "row" "I", Cond.fieldLink RX2 68 "FrontDoor$Server" "until" "I", Cond.fieldLink RX2 33 "FrontDoor$Server" "penalty" "I"]
def wsX3_serverOf_r3 : List Cond := [Cond.fieldLink RX2 71 "FrontDoor$Server" "outs" "I", Cond.fieldLink RX2 80 "FrontDoor$Server" "credit" "I", Cond.constant RX2 83 (1000000000), Cond.fieldLink RX2 15 "FrontDoor$Server" "weight" "I", Cond.fieldLink RX2 18 "FrontDoor$Server" "zone" "I", Cond.fieldLink RX2 21 "FrontDoor$Server" "room" "I", Cond.fieldLink RX2 24 "FrontDoor$Server" "pace" "I", Cond.fieldLink RX2 27 "FrontDoor$Server" "breaks" "I", Cond.fieldLink RX2 54 "FrontDoor$Server" "mute" "I"]
def wsX3_serverOf : List Cond := .code yX3_serverOf cX3_serverOf 4 (some .int) :: ((wsX3_serverOf_r1 ++ (wsX3_serverOf_r2 ++ wsX3_serverOf_r3)) ++ wsX30 ++ wsJx4a65c0 ++ wsX20)
def wsX3_mark_r1 : List Cond := [Cond.methodLink RX3 59 yX3_serverAt, Cond.instanceMethod yX3_serverAt, Cond.selects RX3 yX3_serverAt yX3_serverAt, Cond.initialized RX3, Cond.code yX3_serverAt cX3_serverAt 2 (some (.object "FrontDoor$Server")), Cond.fieldLink RX3 10 "FrontDoor" "servers" "Ljava/util/ArrayList;", Cond.classLink RX3 47 "FrontDoor$Server", Cond.methodLink RX3 43 yJx4a65c_size_8abf5, Cond.instanceMethod yJx4a65c_size_8abf5, Cond.selects RJx4a65c yJx4a65c_size_8abf5 yJx4a65c_size_8abf5, Cond.initialized RJx4a65c, Cond.code yJx4a65c_size_8abf5 cJx4a65c_size_8abf5 1 (some .int), Cond.fieldLink RJx4a65c 48 "java/util/ArrayList" "size" "I", Cond.methodLink RX3 151 yJx4a65c_get_915e3, Cond.instanceMethod yJx4a65c_get_915e3, Cond.selects RJx4a65c yJx4a65c_get_915e3 yJx4a65c_get_915e3, Cond.code yJx4a65c_get_915e3 cJx4a65c_get_915e3 2 (some (.object "java/lang/Object")), Cond.methodLink RJx4a65c 118 yJ15_checkIndex_7cf53, Cond.static yJ15_checkIndex_7cf53, Cond.initialized RJ15, Cond.code yJ15_checkIndex_7cf53 cJ15_checkIndex_7cf53 2 (some .int), Cond.methodLink RJ15 105 yJ3_checkIndex_8e157, Cond.static yJ3_checkIndex_8e157, Cond.initialized RJ3]
def wsX3_mark_r2 : List Cond := [Cond.code yJ3_checkIndex_8e157 cJ3_checkIndex_8e157 3 (some .int), Cond.methodLink RJx4a65c 123 yJx4a65c_elementData_915e3, Cond.instanceMethod yJx4a65c_elementData_915e3, Cond.selects RJx4a65c yJx4a65c_elementData_915e3 yJx4a65c_elementData_915e3, Cond.code yJx4a65c_elementData_915e3 cJx4a65c_elementData_915e3 2 (some (.object "java/lang/Object")), Cond.fieldLink RJx4a65c 9 "java/util/ArrayList" "elementData" "[Ljava/lang/Object;", Cond.methodLink RX3 39 yX3_refuse, Cond.instanceMethod yX3_refuse, Cond.selects RX3 yX3_refuse yX3_refuse, Cond.code yX3_refuse cX3_refuse 3 (some .int), Cond.fieldLink RX3 25 "FrontDoor" "refusals" "[I", Cond.methodLink RX3 148 yX2_placeOfMark, Cond.instanceMethod yX2_placeOfMark, Cond.selects RX2 yX2_placeOfMark yX2_placeOfMark, Cond.initialized RX2, Cond.code yX2_placeOfMark cX2_placeOfMark 2 (some .int), Cond.constant RX2 39 (40503), Cond.fieldLink RX2 9 "FrontDoor$Server" "number" "I", Cond.constant RX2 40 (65535)]
def wsX3_mark : List Cond := .code yX3_mark cX3_mark 4 (some .int) :: ((wsX3_mark_r1 ++ wsX3_mark_r2) ++ wsX30 ++ wsJx4a65c0 ++ wsX20)
def wsX3_queue_r1 : List Cond := [Cond.fieldLink RX3 22 "FrontDoor" "line" "Ljava/util/ArrayList;", Cond.classLink RX3 93 "FrontDoor$Call", Cond.fieldLink RX3 109 "FrontDoor$Call" "number" "I", Cond.methodLink RX3 43 yJx4a65c_size_8abf5, Cond.instanceMethod yJx4a65c_size_8abf5, Cond.selects RJx4a65c yJx4a65c_size_8abf5 yJx4a65c_size_8abf5, Cond.initialized RJx4a65c, Cond.code yJx4a65c_size_8abf5 cJx4a65c_size_8abf5 1 (some .int), Cond.fieldLink RJx4a65c 48 "java/util/ArrayList" "size" "I", Cond.methodLink RX3 151 yJx4a65c_get_915e3, Cond.instanceMethod yJx4a65c_get_915e3, Cond.selects RJx4a65c yJx4a65c_get_915e3 yJx4a65c_get_915e3, Cond.code yJx4a65c_get_915e3 cJx4a65c_get_915e3 2 (some (.object "java/lang/Object")), Cond.methodLink RJx4a65c 118 yJ15_checkIndex_7cf53, Cond.static yJ15_checkIndex_7cf53, Cond.initialized RJ15, Cond.code yJ15_checkIndex_7cf53 cJ15_checkIndex_7cf53 2 (some .int), Cond.methodLink RJ15 105 yJ3_checkIndex_8e157, Cond.static yJ3_checkIndex_8e157, Cond.initialized RJ3, Cond.code yJ3_checkIndex_8e157 cJ3_checkIndex_8e157 3 (some .int), Cond.methodLink RJx4a65c 123 yJx4a65c_elementData_915e3, Cond.instanceMethod yJx4a65c_elementData_915e3, Cond.selects RJx4a65c yJx4a65c_elementData_915e3 yJx4a65c_elementData_915e3]
def wsX3_queue_r2 : List Cond := [Cond.code yJx4a65c_elementData_915e3 cJx4a65c_elementData_915e3 2 (some (.object "java/lang/Object")), Cond.fieldLink RJx4a65c 9 "java/util/ArrayList" "elementData" "[Ljava/lang/Object;"]
def wsX3_queue : List Cond := .code yX3_queue cX3_queue 2 (some .int) :: ((wsX3_queue_r1 ++ wsX3_queue_r2) ++ wsX30 ++ wsX10 ++ wsJx4a65c0)
def wsX3_askingsSoFar_r1 : List Cond := [Cond.fieldLink RX3 10 "FrontDoor" "servers" "Ljava/util/ArrayList;", Cond.classLink RX3 47 "FrontDoor$Server", Cond.fieldLink RX3 158 "FrontDoor$Server" "asked" "I", Cond.methodLink RX3 43 yJx4a65c_size_8abf5, Cond.instanceMethod yJx4a65c_size_8abf5, Cond.selects RJx4a65c yJx4a65c_size_8abf5 yJx4a65c_size_8abf5, Cond.initialized RJx4a65c, Cond.code yJx4a65c_size_8abf5 cJx4a65c_size_8abf5 1 (some .int), Cond.fieldLink RJx4a65c 48 "java/util/ArrayList" "size" "I", Cond.methodLink RX3 151 yJx4a65c_get_915e3, Cond.instanceMethod yJx4a65c_get_915e3, Cond.selects RJx4a65c yJx4a65c_get_915e3 yJx4a65c_get_915e3, Cond.code yJx4a65c_get_915e3 cJx4a65c_get_915e3 2 (some (.object "java/lang/Object")), Cond.methodLink RJx4a65c 118 yJ15_checkIndex_7cf53, Cond.static yJ15_checkIndex_7cf53, Cond.initialized RJ15, Cond.code yJ15_checkIndex_7cf53 cJ15_checkIndex_7cf53 2 (some .int), Cond.methodLink RJ15 105 yJ3_checkIndex_8e157, Cond.static yJ3_checkIndex_8e157, Cond.initialized RJ3, Cond.code yJ3_checkIndex_8e157 cJ3_checkIndex_8e157 3 (some .int), Cond.methodLink RJx4a65c 123 yJx4a65c_elementData_915e3, Cond.instanceMethod yJx4a65c_elementData_915e3, Cond.selects RJx4a65c yJx4a65c_elementData_915e3 yJx4a65c_elementData_915e3]
def wsX3_askingsSoFar_r2 : List Cond := [Cond.code yJx4a65c_elementData_915e3 cJx4a65c_elementData_915e3 2 (some (.object "java/lang/Object")), Cond.fieldLink RJx4a65c 9 "java/util/ArrayList" "elementData" "[Ljava/lang/Object;"]
def wsX3_askingsSoFar : List Cond := .code yX3_askingsSoFar cX3_askingsSoFar 3 (some .int) :: ((wsX3_askingsSoFar_r1 ++ wsX3_askingsSoFar_r2) ++ wsX30 ++ wsX20 ++ wsJx4a65c0)
def wsX3_share_r1 : List Cond := [Cond.fieldLink RX3 158 "FrontDoor$Server" "asked" "I", Cond.methodLink RX3 59 yX3_serverAt, Cond.instanceMethod yX3_serverAt, Cond.selects RX3 yX3_serverAt yX3_serverAt, Cond.initialized RX3, Cond.code yX3_serverAt cX3_serverAt 2 (some (.object "FrontDoor$Server")), Cond.fieldLink RX3 10 "FrontDoor" "servers" "Ljava/util/ArrayList;", Cond.classLink RX3 47 "FrontDoor$Server", Cond.methodLink RX3 43 yJx4a65c_size_8abf5, Cond.instanceMethod yJx4a65c_size_8abf5, Cond.selects RJx4a65c yJx4a65c_size_8abf5 yJx4a65c_size_8abf5, Cond.initialized RJx4a65c, Cond.code yJx4a65c_size_8abf5 cJx4a65c_size_8abf5 1 (some .int), Cond.fieldLink RJx4a65c 48 "java/util/ArrayList" "size" "I", Cond.methodLink RX3 151 yJx4a65c_get_915e3, Cond.instanceMethod yJx4a65c_get_915e3, Cond.selects RJx4a65c yJx4a65c_get_915e3 yJx4a65c_get_915e3, Cond.code yJx4a65c_get_915e3 cJx4a65c_get_915e3 2 (some (.object "java/lang/Object")), Cond.methodLink RJx4a65c 118 yJ15_checkIndex_7cf53, Cond.static yJ15_checkIndex_7cf53, Cond.initialized RJ15, Cond.code yJ15_checkIndex_7cf53 cJ15_checkIndex_7cf53 2 (some .int), Cond.methodLink RJ15 105 yJ3_checkIndex_8e157, Cond.static yJ3_checkIndex_8e157]
def wsX3_share_r2 : List Cond := [Cond.initialized RJ3, Cond.code yJ3_checkIndex_8e157 cJ3_checkIndex_8e157 3 (some .int), Cond.methodLink RJx4a65c 123 yJx4a65c_elementData_915e3, Cond.instanceMethod yJx4a65c_elementData_915e3, Cond.selects RJx4a65c yJx4a65c_elementData_915e3 yJx4a65c_elementData_915e3, Cond.code yJx4a65c_elementData_915e3 cJx4a65c_elementData_915e3 2 (some (.object "java/lang/Object")), Cond.fieldLink RJx4a65c 9 "java/util/ArrayList" "elementData" "[Ljava/lang/Object;", Cond.methodLink RX3 39 yX3_refuse, Cond.instanceMethod yX3_refuse, Cond.selects RX3 yX3_refuse yX3_refuse, Cond.code yX3_refuse cX3_refuse 3 (some .int), Cond.fieldLink RX3 25 "FrontDoor" "refusals" "[I", Cond.methodLink RX3 155 yX3_askingsSoFar, Cond.instanceMethod yX3_askingsSoFar, Cond.selects RX3 yX3_askingsSoFar yX3_askingsSoFar, Cond.code yX3_askingsSoFar cX3_askingsSoFar 3 (some .int)]
def wsX3_share : List Cond := .code yX3_share cX3_share 4 (some .int) :: ((wsX3_share_r1 ++ wsX3_share_r2) ++ wsX20 ++ wsX30 ++ wsJx4a65c0)
def wsX3_callsThatAre_r1 : List Cond := [Cond.fieldLink RX3 16 "FrontDoor" "calls" "Ljava/util/ArrayList;", Cond.classLink RX3 93 "FrontDoor$Call", Cond.fieldLink RX3 118 "FrontDoor$Call" "state" "I", Cond.methodLink RX3 43 yJx4a65c_size_8abf5, Cond.instanceMethod yJx4a65c_size_8abf5, Cond.selects RJx4a65c yJx4a65c_size_8abf5 yJx4a65c_size_8abf5, Cond.initialized RJx4a65c, Cond.code yJx4a65c_size_8abf5 cJx4a65c_size_8abf5 1 (some .int), Cond.fieldLink RJx4a65c 48 "java/util/ArrayList" "size" "I", Cond.methodLink RX3 151 yJx4a65c_get_915e3, Cond.instanceMethod yJx4a65c_get_915e3, Cond.selects RJx4a65c yJx4a65c_get_915e3 yJx4a65c_get_915e3, Cond.code yJx4a65c_get_915e3 cJx4a65c_get_915e3 2 (some (.object "java/lang/Object")), Cond.methodLink RJx4a65c 118 yJ15_checkIndex_7cf53, Cond.static yJ15_checkIndex_7cf53, Cond.initialized RJ15, Cond.code yJ15_checkIndex_7cf53 cJ15_checkIndex_7cf53 2 (some .int), Cond.methodLink RJ15 105 yJ3_checkIndex_8e157, Cond.static yJ3_checkIndex_8e157, Cond.initialized RJ3, Cond.code yJ3_checkIndex_8e157 cJ3_checkIndex_8e157 3 (some .int), Cond.methodLink RJx4a65c 123 yJx4a65c_elementData_915e3, Cond.instanceMethod yJx4a65c_elementData_915e3, Cond.selects RJx4a65c yJx4a65c_elementData_915e3 yJx4a65c_elementData_915e3]
def wsX3_callsThatAre_r2 : List Cond := [Cond.code yJx4a65c_elementData_915e3 cJx4a65c_elementData_915e3 2 (some (.object "java/lang/Object")), Cond.fieldLink RJx4a65c 9 "java/util/ArrayList" "elementData" "[Ljava/lang/Object;"]
def wsX3_callsThatAre : List Cond := .code yX3_callsThatAre cX3_callsThatAre 4 (some .int) :: ((wsX3_callsThatAre_r1 ++ wsX3_callsThatAre_r2) ++ wsX30 ++ wsX10 ++ wsJx4a65c0)
def wsX3_openAskings_r1 : List Cond := [Cond.fieldLink RX3 10 "FrontDoor" "servers" "Ljava/util/ArrayList;", Cond.classLink RX3 47 "FrontDoor$Server", Cond.fieldLink RX3 80 "FrontDoor$Server" "open" "I", Cond.methodLink RX3 43 yJx4a65c_size_8abf5, Cond.instanceMethod yJx4a65c_size_8abf5, Cond.selects RJx4a65c yJx4a65c_size_8abf5 yJx4a65c_size_8abf5, Cond.initialized RJx4a65c, Cond.code yJx4a65c_size_8abf5 cJx4a65c_size_8abf5 1 (some .int), Cond.fieldLink RJx4a65c 48 "java/util/ArrayList" "size" "I", Cond.methodLink RX3 151 yJx4a65c_get_915e3, Cond.instanceMethod yJx4a65c_get_915e3, Cond.selects RJx4a65c yJx4a65c_get_915e3 yJx4a65c_get_915e3, Cond.code yJx4a65c_get_915e3 cJx4a65c_get_915e3 2 (some (.object "java/lang/Object")), Cond.methodLink RJx4a65c 118 yJ15_checkIndex_7cf53, Cond.static yJ15_checkIndex_7cf53, Cond.initialized RJ15, Cond.code yJ15_checkIndex_7cf53 cJ15_checkIndex_7cf53 2 (some .int), Cond.methodLink RJ15 105 yJ3_checkIndex_8e157, Cond.static yJ3_checkIndex_8e157, Cond.initialized RJ3, Cond.code yJ3_checkIndex_8e157 cJ3_checkIndex_8e157 3 (some .int), Cond.methodLink RJx4a65c 123 yJx4a65c_elementData_915e3, Cond.instanceMethod yJx4a65c_elementData_915e3, Cond.selects RJx4a65c yJx4a65c_elementData_915e3 yJx4a65c_elementData_915e3]
def wsX3_openAskings_r2 : List Cond := [Cond.code yJx4a65c_elementData_915e3 cJx4a65c_elementData_915e3 2 (some (.object "java/lang/Object")), Cond.fieldLink RJx4a65c 9 "java/util/ArrayList" "elementData" "[Ljava/lang/Object;"]
def wsX3_openAskings : List Cond := .code yX3_openAskings cX3_openAskings 3 (some .int) :: ((wsX3_openAskings_r1 ++ wsX3_openAskings_r2) ++ wsX30 ++ wsX20 ++ wsJx4a65c0)
def wsX3_count_r1 : List Cond := [Cond.fieldLink RX3 25 "FrontDoor" "refusals" "[I", Cond.fieldLink RX3 95 "FrontDoor" "tick" "I", Cond.fieldLink RX3 10 "FrontDoor" "servers" "Ljava/util/ArrayList;", Cond.fieldLink RX3 16 "FrontDoor" "calls" "Ljava/util/ArrayList;", Cond.fieldLink RX3 164 "FrontDoor" "agains" "I", Cond.fieldLink RX3 167 "FrontDoor" "seconds" "I", Cond.methodLink RX3 161 yX3_callsThatAre, Cond.instanceMethod yX3_callsThatAre, Cond.selects RX3 yX3_callsThatAre yX3_callsThatAre, Cond.initialized RX3, Cond.code yX3_callsThatAre cX3_callsThatAre 4 (some .int), Cond.classLink RX3 93 "FrontDoor$Call", Cond.fieldLink RX3 118 "FrontDoor$Call" "state" "I", Cond.methodLink RX3 43 yJx4a65c_size_8abf5, Cond.instanceMethod yJx4a65c_size_8abf5, Cond.selects RJx4a65c yJx4a65c_size_8abf5 yJx4a65c_size_8abf5, Cond.initialized RJx4a65c, Cond.code yJx4a65c_size_8abf5 cJx4a65c_size_8abf5 1 (some .int), Cond.fieldLink RJx4a65c 48 "java/util/ArrayList" "size" "I", Cond.methodLink RX3 151 yJx4a65c_get_915e3, Cond.instanceMethod yJx4a65c_get_915e3, Cond.selects RJx4a65c yJx4a65c_get_915e3 yJx4a65c_get_915e3, Cond.code yJx4a65c_get_915e3 cJx4a65c_get_915e3 2 (some (.object "java/lang/Object")), Cond.methodLink RJx4a65c 118 yJ15_checkIndex_7cf53]
def wsX3_count_r2 : List Cond := [Cond.static yJ15_checkIndex_7cf53, Cond.initialized RJ15, Cond.code yJ15_checkIndex_7cf53 cJ15_checkIndex_7cf53 2 (some .int), Cond.methodLink RJ15 105 yJ3_checkIndex_8e157, Cond.static yJ3_checkIndex_8e157, Cond.initialized RJ3, Cond.code yJ3_checkIndex_8e157 cJ3_checkIndex_8e157 3 (some .int), Cond.methodLink RJx4a65c 123 yJx4a65c_elementData_915e3, Cond.instanceMethod yJx4a65c_elementData_915e3, Cond.selects RJx4a65c yJx4a65c_elementData_915e3 yJx4a65c_elementData_915e3, Cond.code yJx4a65c_elementData_915e3 cJx4a65c_elementData_915e3 2 (some (.object "java/lang/Object")), Cond.fieldLink RJx4a65c 9 "java/util/ArrayList" "elementData" "[Ljava/lang/Object;", Cond.methodLink RX3 155 yX3_askingsSoFar, Cond.instanceMethod yX3_askingsSoFar, Cond.selects RX3 yX3_askingsSoFar yX3_askingsSoFar, Cond.code yX3_askingsSoFar cX3_askingsSoFar 3 (some .int), Cond.classLink RX3 47 "FrontDoor$Server", Cond.fieldLink RX3 158 "FrontDoor$Server" "asked" "I", Cond.methodLink RX3 170 yX3_openAskings, Cond.instanceMethod yX3_openAskings, Cond.selects RX3 yX3_openAskings yX3_openAskings, Cond.code yX3_openAskings cX3_openAskings 3 (some .int), Cond.fieldLink RX3 80 "FrontDoor$Server" "open" "I"]
def wsX3_count : List Cond := .code yX3_count cX3_count 2 (some .int) :: ((wsX3_count_r1 ++ wsX3_count_r2) ++ wsX30 ++ wsX10 ++ wsJx4a65c0 ++ wsX20)
def wsX4_init_r1 : List Cond := [Cond.methodLink RX4 1 objectInit, Cond.instanceMethod objectInit, Cond.code objectInit ⟨#[0xb1]⟩ 1 none, Cond.arrayClass .int, Cond.fieldLink RX4 7 "FrontDoorModel" "refusals" "[I", Cond.fieldLink RX4 13 "FrontDoorModel" "limit" "I", Cond.fieldLink RX4 17 "FrontDoorModel" "budget" "I", Cond.fieldLink RX4 20 "FrontDoorModel" "weight" "[I", Cond.fieldLink RX4 23 "FrontDoorModel" "zone" "[I", Cond.fieldLink RX4 26 "FrontDoorModel" "room" "[I", Cond.fieldLink RX4 29 "FrontDoorModel" "pace" "[I", Cond.fieldLink RX4 32 "FrontDoorModel" "breaks" "[I", Cond.fieldLink RX4 35 "FrontDoorModel" "mute" "[I", Cond.fieldLink RX4 38 "FrontDoorModel" "health" "[I", Cond.fieldLink RX4 41 "FrontDoorModel" "open" "[I", Cond.fieldLink RX4 44 "FrontDoorModel" "asked" "[I", Cond.fieldLink RX4 47 "FrontDoorModel" "answers" "[I", Cond.fieldLink RX4 50 "FrontDoorModel" "failures" "[I", Cond.fieldLink RX4 53 "FrontDoorModel" "row" "[I", Cond.fieldLink RX4 56 "FrontDoorModel" "until" "[I", Cond.fieldLink RX4 59 "FrontDoorModel" "penalty" "[I", Cond.fieldLink RX4 62 "FrontDoorModel" "outs" "[I", Cond.fieldLink RX4 65 "FrontDoorModel" "credit" "[I", Cond.fieldLink RX4 68 "FrontDoorModel" "key" "[I"]
def wsX4_init_r2 : List Cond := [Cond.fieldLink RX4 71 "FrontDoorModel" "grade" "[I", Cond.fieldLink RX4 74 "FrontDoorModel" "due" "[I", Cond.fieldLink RX4 77 "FrontDoorModel" "state" "[I", Cond.fieldLink RX4 80 "FrontDoorModel" "asks" "[I", Cond.fieldLink RX4 83 "FrontDoorModel" "tried" "[I", Cond.fieldLink RX4 86 "FrontDoorModel" "came" "[I", Cond.fieldLink RX4 89 "FrontDoorModel" "ended" "[I", Cond.fieldLink RX4 92 "FrontDoorModel" "by" "[I", Cond.arrayClass .boolean, Cond.fieldLink RX4 95 "FrontDoorModel" "safe" "[Z", Cond.fieldLink RX4 99 "FrontDoorModel" "at" "[I", Cond.fieldLink RX4 102 "FrontDoorModel" "since" "[I", Cond.fieldLink RX4 105 "FrontDoorModel" "over" "[I", Cond.fieldLink RX4 108 "FrontDoorModel" "fails" "[Z", Cond.fieldLink RX4 111 "FrontDoorModel" "queue" "[I"]
def wsX4_init : List Cond := .code yX4_init cX4_init 1 none :: ((wsX4_init_r1 ++ wsX4_init_r2) ++ wsX40)
def wsX4_refuse : List Cond := .code yX4_refuse cX4_refuse 2 (some .int) :: ([.fieldLink RX4 7 "FrontDoorModel" "refusals" "[I"] ++ wsX40)
def wsX4_isIn : List Cond := .code yX4_isIn cX4_isIn 2 (some .boolean) :: ([])
def wsX4_isServer : List Cond := .code yX4_isServer cX4_isServer 2 (some .boolean) :: ([.fieldLink RX4 114 "FrontDoorModel" "servers" "I", .methodLink RX4 117 yX4_isIn, .static yX4_isIn, .initialized RX4, .code yX4_isIn cX4_isIn 2 (some .boolean)] ++ wsX40)
def wsX4_isCall : List Cond := .code yX4_isCall cX4_isCall 2 (some .boolean) :: ([.fieldLink RX4 121 "FrontDoorModel" "calls" "I", .methodLink RX4 117 yX4_isIn, .static yX4_isIn, .initialized RX4, .code yX4_isIn cX4_isIn 2 (some .boolean)] ++ wsX40)
def wsX4_server : List Cond := .code yX4_server cX4_server 7 (some .int) :: ([.fieldLink RX4 114 "FrontDoorModel" "servers" "I", .fieldLink RX4 20 "FrontDoorModel" "weight" "[I", .fieldLink RX4 23 "FrontDoorModel" "zone" "[I", .fieldLink RX4 26 "FrontDoorModel" "room" "[I", .fieldLink RX4 29 "FrontDoorModel" "pace" "[I", .fieldLink RX4 32 "FrontDoorModel" "breaks" "[I", .fieldLink RX4 59 "FrontDoorModel" "penalty" "[I", .methodLink RX4 117 yX4_isIn, .static yX4_isIn, .initialized RX4, .code yX4_isIn cX4_isIn 2 (some .boolean), .methodLink RX4 124 yX4_refuse, .instanceMethod yX4_refuse, .selects RX4 yX4_refuse yX4_refuse, .code yX4_refuse cX4_refuse 2 (some .int), .fieldLink RX4 7 "FrontDoorModel" "refusals" "[I"] ++ wsX40)
def wsX4_serverOf_r1 : List Cond := [Cond.fieldLink RX4 38 "FrontDoorModel" "health" "[I", Cond.fieldLink RX4 41 "FrontDoorModel" "open" "[I", Cond.fieldLink RX4 44 "FrontDoorModel" "asked" "[I", Cond.fieldLink RX4 47 "FrontDoorModel" "answers" "[I", Cond.fieldLink RX4 50 "FrontDoorModel" "failures" "[I", Cond.fieldLink RX4 53 "FrontDoorModel" "row" "[I", Cond.fieldLink RX4 56 "FrontDoorModel" "until" "[I", Cond.fieldLink RX4 59 "FrontDoorModel" "penalty" "[I", Cond.fieldLink RX4 62 "FrontDoorModel" "outs" "[I", Cond.fieldLink RX4 65 "FrontDoorModel" "credit" "[I", Cond.constant RX4 234 (1000000000), Cond.fieldLink RX4 20 "FrontDoorModel" "weight" "[I", Cond.fieldLink RX4 23 "FrontDoorModel" "zone" "[I", Cond.fieldLink RX4 26 "FrontDoorModel" "room" "[I", Cond.fieldLink RX4 29 "FrontDoorModel" "pace" "[I", Cond.fieldLink RX4 32 "FrontDoorModel" "breaks" "[I", Cond.fieldLink RX4 35 "FrontDoorModel" "mute" "[I", Cond.methodLink RX4 128 yX4_isServer, Cond.instanceMethod yX4_isServer, Cond.selects RX4 yX4_isServer yX4_isServer, Cond.initialized RX4, Cond.code yX4_isServer cX4_isServer 2 (some .boolean), Cond.fieldLink RX4 114 "FrontDoorModel" "servers" "I", Cond.methodLink RX4 117 yX4_isIn]
def wsX4_serverOf_r2 : List Cond := [Cond.static yX4_isIn, Cond.code yX4_isIn cX4_isIn 2 (some .boolean), Cond.methodLink RX4 124 yX4_refuse, Cond.instanceMethod yX4_refuse, Cond.selects RX4 yX4_refuse yX4_refuse, Cond.code yX4_refuse cX4_refuse 2 (some .int), Cond.fieldLink RX4 7 "FrontDoorModel" "refusals" "[I"]
def wsX4_serverOf : List Cond := .code yX4_serverOf cX4_serverOf 3 (some .int) :: ((wsX4_serverOf_r1 ++ wsX4_serverOf_r2) ++ wsX40)
def wsX4_set_r1 : List Cond := [Cond.fieldLink RX4 38 "FrontDoorModel" "health" "[I", Cond.fieldLink RX4 20 "FrontDoorModel" "weight" "[I", Cond.fieldLink RX4 26 "FrontDoorModel" "room" "[I", Cond.fieldLink RX4 29 "FrontDoorModel" "pace" "[I", Cond.fieldLink RX4 32 "FrontDoorModel" "breaks" "[I", Cond.fieldLink RX4 35 "FrontDoorModel" "mute" "[I", Cond.methodLink RX4 128 yX4_isServer, Cond.instanceMethod yX4_isServer, Cond.selects RX4 yX4_isServer yX4_isServer, Cond.initialized RX4, Cond.code yX4_isServer cX4_isServer 2 (some .boolean), Cond.fieldLink RX4 114 "FrontDoorModel" "servers" "I", Cond.methodLink RX4 117 yX4_isIn, Cond.static yX4_isIn, Cond.code yX4_isIn cX4_isIn 2 (some .boolean), Cond.methodLink RX4 124 yX4_refuse, Cond.instanceMethod yX4_refuse, Cond.selects RX4 yX4_refuse yX4_refuse, Cond.code yX4_refuse cX4_refuse 2 (some .int), Cond.fieldLink RX4 7 "FrontDoorModel" "refusals" "[I", Cond.methodLink RX4 132 yX4_serverOf, Cond.instanceMethod yX4_serverOf, Cond.selects RX4 yX4_serverOf yX4_serverOf, Cond.code yX4_serverOf cX4_serverOf 3 (some .int)]
def wsX4_set_r2 : List Cond := [Cond.fieldLink RX4 41 "FrontDoorModel" "open" "[I", Cond.fieldLink RX4 44 "FrontDoorModel" "asked" "[I", Cond.fieldLink RX4 47 "FrontDoorModel" "answers" "[I", Cond.fieldLink RX4 50 "FrontDoorModel" "failures" "[I", Cond.fieldLink RX4 53 "FrontDoorModel" "row" "[I", Cond.fieldLink RX4 56 "FrontDoorModel" "until" "[I", Cond.fieldLink RX4 59 "FrontDoorModel" "penalty" "[I", Cond.fieldLink RX4 62 "FrontDoorModel" "outs" "[I", Cond.fieldLink RX4 65 "FrontDoorModel" "credit" "[I", Cond.constant RX4 234 (1000000000), Cond.fieldLink RX4 23 "FrontDoorModel" "zone" "[I"]
def wsX4_set : List Cond := .code yX4_set cX4_set 5 (some .int) :: ((wsX4_set_r1 ++ wsX4_set_r2) ++ wsX40)
def wsX4_drain : List Cond := .code yX4_drain cX4_drain 2 (some .int) :: ([.fieldLink RX4 38 "FrontDoorModel" "health" "[I", .fieldLink RX4 41 "FrontDoorModel" "open" "[I", .methodLink RX4 128 yX4_isServer, .instanceMethod yX4_isServer, .selects RX4 yX4_isServer yX4_isServer, .initialized RX4, .code yX4_isServer cX4_isServer 2 (some .boolean), .fieldLink RX4 114 "FrontDoorModel" "servers" "I", .methodLink RX4 117 yX4_isIn, .static yX4_isIn, .code yX4_isIn cX4_isIn 2 (some .boolean), .methodLink RX4 124 yX4_refuse, .instanceMethod yX4_refuse, .selects RX4 yX4_refuse yX4_refuse, .code yX4_refuse cX4_refuse 2 (some .int), .fieldLink RX4 7 "FrontDoorModel" "refusals" "[I"] ++ wsX40)
def wsX4_back : List Cond := .code yX4_back cX4_back 2 (some .int) :: ([.fieldLink RX4 38 "FrontDoorModel" "health" "[I", .fieldLink RX4 53 "FrontDoorModel" "row" "[I", .fieldLink RX4 59 "FrontDoorModel" "penalty" "[I", .methodLink RX4 128 yX4_isServer, .instanceMethod yX4_isServer, .selects RX4 yX4_isServer yX4_isServer, .initialized RX4, .code yX4_isServer cX4_isServer 2 (some .boolean), .fieldLink RX4 114 "FrontDoorModel" "servers" "I", .methodLink RX4 117 yX4_isIn, .static yX4_isIn, .code yX4_isIn cX4_isIn 2 (some .boolean), .methodLink RX4 124 yX4_refuse, .instanceMethod yX4_refuse, .selects RX4 yX4_refuse yX4_refuse, .code yX4_refuse cX4_refuse 2 (some .int), .fieldLink RX4 7 "FrontDoorModel" "refusals" "[I"] ++ wsX40)
def wsX4_rule : List Cond := .code yX4_rule cX4_rule 3 (some .int) :: ([.fieldLink RX4 136 "FrontDoorModel" "rule" "I", .methodLink RX4 117 yX4_isIn, .static yX4_isIn, .initialized RX4, .code yX4_isIn cX4_isIn 2 (some .boolean), .methodLink RX4 124 yX4_refuse, .instanceMethod yX4_refuse, .selects RX4 yX4_refuse yX4_refuse, .code yX4_refuse cX4_refuse 2 (some .int), .fieldLink RX4 7 "FrontDoorModel" "refusals" "[I"] ++ wsX40)
def wsX4_limit : List Cond := .code yX4_limit cX4_limit 3 (some .int) :: ([.fieldLink RX4 13 "FrontDoorModel" "limit" "I", .methodLink RX4 124 yX4_refuse, .instanceMethod yX4_refuse, .selects RX4 yX4_refuse yX4_refuse, .initialized RX4, .code yX4_refuse cX4_refuse 2 (some .int), .fieldLink RX4 7 "FrontDoorModel" "refusals" "[I"] ++ wsX40)
def wsX4_budget : List Cond := .code yX4_budget cX4_budget 3 (some .int) :: ([.fieldLink RX4 17 "FrontDoorModel" "budget" "I", .methodLink RX4 124 yX4_refuse, .instanceMethod yX4_refuse, .selects RX4 yX4_refuse yX4_refuse, .initialized RX4, .code yX4_refuse cX4_refuse 2 (some .int), .fieldLink RX4 7 "FrontDoorModel" "refusals" "[I"] ++ wsX40)
def wsX4_hedge : List Cond := .code yX4_hedge cX4_hedge 3 (some .int) :: ([.fieldLink RX4 139 "FrontDoorModel" "hedge" "I", .methodLink RX4 124 yX4_refuse, .instanceMethod yX4_refuse, .selects RX4 yX4_refuse yX4_refuse, .initialized RX4, .code yX4_refuse cX4_refuse 2 (some .int), .fieldLink RX4 7 "FrontDoorModel" "refusals" "[I"] ++ wsX40)
def wsX4_mays : List Cond := .code yX4_mays cX4_mays 4 (some .int) :: ([.fieldLink RX4 114 "FrontDoorModel" "servers" "I", .fieldLink RX4 41 "FrontDoorModel" "open" "[I", .fieldLink RX4 26 "FrontDoorModel" "room" "[I", .fieldLink RX4 38 "FrontDoorModel" "health" "[I"] ++ wsX40)
def wsX4_fewest : List Cond := .code yX4_fewest cX4_fewest 4 (some .int) :: ([.fieldLink RX4 114 "FrontDoorModel" "servers" "I", .fieldLink RX4 41 "FrontDoorModel" "open" "[I", .fieldLink RX4 20 "FrontDoorModel" "weight" "[I"] ++ wsX40)
def wsX4_markOf : List Cond := .code yX4_markOf cX4_markOf 2 (some .int) :: ([.constant RX4 142 (40503), .constant RX4 143 (65536)])
def wsX4_onRing : List Cond := .code yX4_onRing cX4_onRing 8 (some .int) :: ([.constant RX4 143 (65536), .fieldLink RX4 114 "FrontDoorModel" "servers" "I", .methodLink RX4 144 yX4_markOf, .static yX4_markOf, .initialized RX4, .code yX4_markOf cX4_markOf 2 (some .int), .constant RX4 142 (40503)] ++ wsX40)
def wsX4_near : List Cond := .code yX4_near cX4_near 5 (some .int) :: ([.fieldLink RX4 114 "FrontDoorModel" "servers" "I", .fieldLink RX4 23 "FrontDoorModel" "zone" "[I", .methodLink RX4 147 yX4_fewest, .instanceMethod yX4_fewest, .selects RX4 yX4_fewest yX4_fewest, .initialized RX4, .code yX4_fewest cX4_fewest 4 (some .int), .fieldLink RX4 41 "FrontDoorModel" "open" "[I", .fieldLink RX4 20 "FrontDoorModel" "weight" "[I"] ++ wsX40)
def wsX4_byTurns : List Cond := .code yX4_byTurns cX4_byTurns 6 (some .int) :: ([.fieldLink RX4 114 "FrontDoorModel" "servers" "I", .fieldLink RX4 20 "FrontDoorModel" "weight" "[I", .fieldLink RX4 65 "FrontDoorModel" "credit" "[I"] ++ wsX40)
def wsX4_picked_r1 : List Cond := [Cond.fieldLink RX4 136 "FrontDoorModel" "rule" "I", Cond.methodLink RX4 150 yX4_byTurns, Cond.instanceMethod yX4_byTurns, Cond.selects RX4 yX4_byTurns yX4_byTurns, Cond.initialized RX4, Cond.code yX4_byTurns cX4_byTurns 6 (some .int), Cond.fieldLink RX4 114 "FrontDoorModel" "servers" "I", Cond.fieldLink RX4 20 "FrontDoorModel" "weight" "[I", Cond.fieldLink RX4 65 "FrontDoorModel" "credit" "[I", Cond.methodLink RX4 147 yX4_fewest, Cond.instanceMethod yX4_fewest, Cond.selects RX4 yX4_fewest yX4_fewest, Cond.code yX4_fewest cX4_fewest 4 (some .int), Cond.fieldLink RX4 41 "FrontDoorModel" "open" "[I", Cond.methodLink RX4 154 yX4_onRing, Cond.instanceMethod yX4_onRing, Cond.selects RX4 yX4_onRing yX4_onRing, Cond.code yX4_onRing cX4_onRing 8 (some .int), Cond.constant RX4 143 (65536), Cond.methodLink RX4 144 yX4_markOf, Cond.static yX4_markOf, Cond.code yX4_markOf cX4_markOf 2 (some .int), Cond.constant RX4 142 (40503), Cond.methodLink RX4 157 yX4_near]
def wsX4_picked_r2 : List Cond := [Cond.instanceMethod yX4_near, Cond.selects RX4 yX4_near yX4_near, Cond.code yX4_near cX4_near 5 (some .int), Cond.fieldLink RX4 23 "FrontDoorModel" "zone" "[I"]
def wsX4_picked : List Cond := .code yX4_picked cX4_picked 4 (some .int) :: ((wsX4_picked_r1 ++ wsX4_picked_r2) ++ wsX40)
def wsX4_ask : List Cond := .code yX4_ask cX4_ask 4 none :: ([.fieldLink RX4 44 "FrontDoorModel" "asked" "[I", .fieldLink RX4 160 "FrontDoorModel" "askings" "I", .fieldLink RX4 41 "FrontDoorModel" "open" "[I", .fieldLink RX4 80 "FrontDoorModel" "asks" "[I", .fieldLink RX4 99 "FrontDoorModel" "at" "[I", .fieldLink RX4 102 "FrontDoorModel" "since" "[I", .fieldLink RX4 163 "FrontDoorModel" "tick" "I", .fieldLink RX4 105 "FrontDoorModel" "over" "[I", .fieldLink RX4 35 "FrontDoorModel" "mute" "[I", .constant RX4 166 (1000000), .fieldLink RX4 29 "FrontDoorModel" "pace" "[I", .fieldLink RX4 108 "FrontDoorModel" "fails" "[Z", .fieldLink RX4 32 "FrontDoorModel" "breaks" "[I", .fieldLink RX4 83 "FrontDoorModel" "tried" "[I", .fieldLink RX4 77 "FrontDoorModel" "state" "[I"] ++ wsX40)
def wsX4_asksFor_r1 : List Cond := [Cond.fieldLink RX4 83 "FrontDoorModel" "tried" "[I", Cond.fieldLink RX4 68 "FrontDoorModel" "key" "[I", Cond.methodLink RX4 167 yX4_mays, Cond.instanceMethod yX4_mays, Cond.selects RX4 yX4_mays yX4_mays, Cond.initialized RX4, Cond.code yX4_mays cX4_mays 4 (some .int), Cond.fieldLink RX4 114 "FrontDoorModel" "servers" "I", Cond.fieldLink RX4 41 "FrontDoorModel" "open" "[I", Cond.fieldLink RX4 26 "FrontDoorModel" "room" "[I", Cond.fieldLink RX4 38 "FrontDoorModel" "health" "[I", Cond.methodLink RX4 170 yX4_picked, Cond.instanceMethod yX4_picked, Cond.selects RX4 yX4_picked yX4_picked, Cond.code yX4_picked cX4_picked 4 (some .int), Cond.fieldLink RX4 136 "FrontDoorModel" "rule" "I", Cond.methodLink RX4 150 yX4_byTurns, Cond.instanceMethod yX4_byTurns, Cond.selects RX4 yX4_byTurns yX4_byTurns, Cond.code yX4_byTurns cX4_byTurns 6 (some .int), Cond.fieldLink RX4 20 "FrontDoorModel" "weight" "[I", Cond.fieldLink RX4 65 "FrontDoorModel" "credit" "[I", Cond.methodLink RX4 147 yX4_fewest, Cond.instanceMethod yX4_fewest]
def wsX4_asksFor_r2 : List Cond := [Cond.selects RX4 yX4_fewest yX4_fewest, Cond.code yX4_fewest cX4_fewest 4 (some .int), Cond.methodLink RX4 154 yX4_onRing, Cond.instanceMethod yX4_onRing, Cond.selects RX4 yX4_onRing yX4_onRing, Cond.code yX4_onRing cX4_onRing 8 (some .int), Cond.constant RX4 143 (65536), Cond.methodLink RX4 144 yX4_markOf, Cond.static yX4_markOf, Cond.code yX4_markOf cX4_markOf 2 (some .int), Cond.constant RX4 142 (40503), Cond.methodLink RX4 157 yX4_near, Cond.instanceMethod yX4_near, Cond.selects RX4 yX4_near yX4_near, Cond.code yX4_near cX4_near 5 (some .int), Cond.fieldLink RX4 23 "FrontDoorModel" "zone" "[I", Cond.methodLink RX4 174 yX4_ask, Cond.instanceMethod yX4_ask, Cond.selects RX4 yX4_ask yX4_ask, Cond.code yX4_ask cX4_ask 4 none, Cond.fieldLink RX4 44 "FrontDoorModel" "asked" "[I", Cond.fieldLink RX4 160 "FrontDoorModel" "askings" "I", Cond.fieldLink RX4 80 "FrontDoorModel" "asks" "[I", Cond.fieldLink RX4 99 "FrontDoorModel" "at" "[I"]
def wsX4_asksFor_r3 : List Cond := [Cond.fieldLink RX4 102 "FrontDoorModel" "since" "[I", Cond.fieldLink RX4 163 "FrontDoorModel" "tick" "I", Cond.fieldLink RX4 105 "FrontDoorModel" "over" "[I", Cond.fieldLink RX4 35 "FrontDoorModel" "mute" "[I", Cond.constant RX4 166 (1000000), Cond.fieldLink RX4 29 "FrontDoorModel" "pace" "[I", Cond.fieldLink RX4 108 "FrontDoorModel" "fails" "[Z", Cond.fieldLink RX4 32 "FrontDoorModel" "breaks" "[I", Cond.fieldLink RX4 77 "FrontDoorModel" "state" "[I"]
def wsX4_asksFor : List Cond := .code yX4_asksFor cX4_asksFor 3 (some .boolean) :: ((wsX4_asksFor_r1 ++ (wsX4_asksFor_r2 ++ wsX4_asksFor_r3)) ++ wsX40)
def wsX4_call_r1 : List Cond := [Cond.constant RX4 143 (65536), Cond.fieldLink RX4 121 "FrontDoorModel" "calls" "I", Cond.fieldLink RX4 68 "FrontDoorModel" "key" "[I", Cond.fieldLink RX4 71 "FrontDoorModel" "grade" "[I", Cond.fieldLink RX4 74 "FrontDoorModel" "due" "[I", Cond.fieldLink RX4 163 "FrontDoorModel" "tick" "I", Cond.fieldLink RX4 95 "FrontDoorModel" "safe" "[Z", Cond.fieldLink RX4 86 "FrontDoorModel" "came" "[I", Cond.fieldLink RX4 89 "FrontDoorModel" "ended" "[I", Cond.fieldLink RX4 92 "FrontDoorModel" "by" "[I", Cond.methodLink RX4 124 yX4_refuse, Cond.instanceMethod yX4_refuse, Cond.selects RX4 yX4_refuse yX4_refuse, Cond.initialized RX4, Cond.code yX4_refuse cX4_refuse 2 (some .int), Cond.fieldLink RX4 7 "FrontDoorModel" "refusals" "[I", Cond.methodLink RX4 178 yX4_asksFor, Cond.instanceMethod yX4_asksFor, Cond.selects RX4 yX4_asksFor yX4_asksFor, Cond.code yX4_asksFor cX4_asksFor 3 (some .boolean), Cond.fieldLink RX4 83 "FrontDoorModel" "tried" "[I", Cond.methodLink RX4 167 yX4_mays, Cond.instanceMethod yX4_mays, Cond.selects RX4 yX4_mays yX4_mays]
def wsX4_call_r2 : List Cond := [Cond.code yX4_mays cX4_mays 4 (some .int), Cond.fieldLink RX4 114 "FrontDoorModel" "servers" "I", Cond.fieldLink RX4 41 "FrontDoorModel" "open" "[I", Cond.fieldLink RX4 26 "FrontDoorModel" "room" "[I", Cond.fieldLink RX4 38 "FrontDoorModel" "health" "[I", Cond.methodLink RX4 170 yX4_picked, Cond.instanceMethod yX4_picked, Cond.selects RX4 yX4_picked yX4_picked, Cond.code yX4_picked cX4_picked 4 (some .int), Cond.fieldLink RX4 136 "FrontDoorModel" "rule" "I", Cond.methodLink RX4 150 yX4_byTurns, Cond.instanceMethod yX4_byTurns, Cond.selects RX4 yX4_byTurns yX4_byTurns, Cond.code yX4_byTurns cX4_byTurns 6 (some .int), Cond.fieldLink RX4 20 "FrontDoorModel" "weight" "[I", Cond.fieldLink RX4 65 "FrontDoorModel" "credit" "[I", Cond.methodLink RX4 147 yX4_fewest, Cond.instanceMethod yX4_fewest, Cond.selects RX4 yX4_fewest yX4_fewest, Cond.code yX4_fewest cX4_fewest 4 (some .int), Cond.methodLink RX4 154 yX4_onRing, Cond.instanceMethod yX4_onRing, Cond.selects RX4 yX4_onRing yX4_onRing, Cond.code yX4_onRing cX4_onRing 8 (some .int)]
def wsX4_call_r3 : List Cond := [Cond.methodLink RX4 144 yX4_markOf, Cond.static yX4_markOf, Cond.code yX4_markOf cX4_markOf 2 (some .int), Cond.constant RX4 142 (40503), Cond.methodLink RX4 157 yX4_near, Cond.instanceMethod yX4_near, Cond.selects RX4 yX4_near yX4_near, Cond.code yX4_near cX4_near 5 (some .int), Cond.fieldLink RX4 23 "FrontDoorModel" "zone" "[I", Cond.methodLink RX4 174 yX4_ask, Cond.instanceMethod yX4_ask, Cond.selects RX4 yX4_ask yX4_ask, Cond.code yX4_ask cX4_ask 4 none, Cond.fieldLink RX4 44 "FrontDoorModel" "asked" "[I", Cond.fieldLink RX4 160 "FrontDoorModel" "askings" "I", Cond.fieldLink RX4 80 "FrontDoorModel" "asks" "[I", Cond.fieldLink RX4 99 "FrontDoorModel" "at" "[I", Cond.fieldLink RX4 102 "FrontDoorModel" "since" "[I", Cond.fieldLink RX4 105 "FrontDoorModel" "over" "[I", Cond.fieldLink RX4 35 "FrontDoorModel" "mute" "[I", Cond.constant RX4 166 (1000000), Cond.fieldLink RX4 29 "FrontDoorModel" "pace" "[I", Cond.fieldLink RX4 108 "FrontDoorModel" "fails" "[Z", Cond.fieldLink RX4 32 "FrontDoorModel" "breaks" "[I"]
def wsX4_call_r4 : List Cond := [Cond.fieldLink RX4 77 "FrontDoorModel" "state" "[I"]
def wsX4_call : List Cond := .code yX4_call cX4_call 7 (some .int) :: ((wsX4_call_r1 ++ (wsX4_call_r2 ++ (wsX4_call_r3 ++ wsX4_call_r4))) ++ wsX40)
def wsX4_outsNow : List Cond := .code yX4_outsNow cX4_outsNow 4 (some .int) :: ([.fieldLink RX4 114 "FrontDoorModel" "servers" "I", .fieldLink RX4 38 "FrontDoorModel" "health" "[I"] ++ wsX40)
def wsX4_failure : List Cond := .code yX4_failure cX4_failure 3 none :: ([.fieldLink RX4 50 "FrontDoorModel" "failures" "[I", .fieldLink RX4 53 "FrontDoorModel" "row" "[I", .fieldLink RX4 38 "FrontDoorModel" "health" "[I", .fieldLink RX4 13 "FrontDoorModel" "limit" "I", .fieldLink RX4 56 "FrontDoorModel" "until" "[I", .fieldLink RX4 163 "FrontDoorModel" "tick" "I", .fieldLink RX4 59 "FrontDoorModel" "penalty" "[I", .methodLink RX4 185 Lib.Math.min.name, .static Lib.Math.min.name, .initialized "java/lang/Math", .code Lib.Math.min.name Lib.Math.min.code 2 (some .int), .fieldLink RX4 62 "FrontDoorModel" "outs" "[I", .methodLink RX4 181 yX4_outsNow, .instanceMethod yX4_outsNow, .selects RX4 yX4_outsNow yX4_outsNow, .initialized RX4, .code yX4_outsNow cX4_outsNow 4 (some .int), .fieldLink RX4 114 "FrontDoorModel" "servers" "I"] ++ wsX40)
def wsX4_answer : List Cond := .code yX4_answer cX4_answer 2 none :: ([.fieldLink RX4 47 "FrontDoorModel" "answers" "[I", .fieldLink RX4 53 "FrontDoorModel" "row" "[I", .fieldLink RX4 59 "FrontDoorModel" "penalty" "[I", .fieldLink RX4 38 "FrontDoorModel" "health" "[I"] ++ wsX40)
def wsX4_takes : List Cond := .code yX4_takes cX4_takes 4 none :: ([.fieldLink RX4 41 "FrontDoorModel" "open" "[I", .fieldLink RX4 99 "FrontDoorModel" "at" "[I", .fieldLink RX4 80 "FrontDoorModel" "asks" "[I", .fieldLink RX4 102 "FrontDoorModel" "since" "[I", .fieldLink RX4 105 "FrontDoorModel" "over" "[I", .fieldLink RX4 108 "FrontDoorModel" "fails" "[Z"] ++ wsX40)
def wsX4_ends : List Cond := .code yX4_ends cX4_ends 3 none :: ([.fieldLink RX4 80 "FrontDoorModel" "asks" "[I", .fieldLink RX4 77 "FrontDoorModel" "state" "[I", .fieldLink RX4 89 "FrontDoorModel" "ended" "[I", .fieldLink RX4 163 "FrontDoorModel" "tick" "I", .methodLink RX4 190 yX4_takes, .instanceMethod yX4_takes, .selects RX4 yX4_takes yX4_takes, .initialized RX4, .code yX4_takes cX4_takes 4 none, .fieldLink RX4 41 "FrontDoorModel" "open" "[I", .fieldLink RX4 99 "FrontDoorModel" "at" "[I", .fieldLink RX4 102 "FrontDoorModel" "since" "[I", .fieldLink RX4 105 "FrontDoorModel" "over" "[I", .fieldLink RX4 108 "FrontDoorModel" "fails" "[Z"] ++ wsX40)
def wsX4_off_r1 : List Cond := [Cond.fieldLink RX4 77 "FrontDoorModel" "state" "[I", Cond.methodLink RX4 193 yX4_isCall, Cond.instanceMethod yX4_isCall, Cond.selects RX4 yX4_isCall yX4_isCall, Cond.initialized RX4, Cond.code yX4_isCall cX4_isCall 2 (some .boolean), Cond.fieldLink RX4 121 "FrontDoorModel" "calls" "I", Cond.methodLink RX4 117 yX4_isIn, Cond.static yX4_isIn, Cond.code yX4_isIn cX4_isIn 2 (some .boolean), Cond.methodLink RX4 124 yX4_refuse, Cond.instanceMethod yX4_refuse, Cond.selects RX4 yX4_refuse yX4_refuse, Cond.code yX4_refuse cX4_refuse 2 (some .int), Cond.fieldLink RX4 7 "FrontDoorModel" "refusals" "[I", Cond.methodLink RX4 196 yX4_ends, Cond.instanceMethod yX4_ends, Cond.selects RX4 yX4_ends yX4_ends, Cond.code yX4_ends cX4_ends 3 none, Cond.fieldLink RX4 80 "FrontDoorModel" "asks" "[I", Cond.fieldLink RX4 89 "FrontDoorModel" "ended" "[I", Cond.fieldLink RX4 163 "FrontDoorModel" "tick" "I", Cond.methodLink RX4 190 yX4_takes, Cond.instanceMethod yX4_takes]
def wsX4_off_r2 : List Cond := [Cond.selects RX4 yX4_takes yX4_takes, Cond.code yX4_takes cX4_takes 4 none, Cond.fieldLink RX4 41 "FrontDoorModel" "open" "[I", Cond.fieldLink RX4 99 "FrontDoorModel" "at" "[I", Cond.fieldLink RX4 102 "FrontDoorModel" "since" "[I", Cond.fieldLink RX4 105 "FrontDoorModel" "over" "[I", Cond.fieldLink RX4 108 "FrontDoorModel" "fails" "[Z"]
def wsX4_off : List Cond := .code yX4_off cX4_off 2 (some .int) :: ((wsX4_off_r1 ++ wsX4_off_r2) ++ wsX40)
def wsX4_comesBack_r1 : List Cond := [Cond.fieldLink RX4 80 "FrontDoorModel" "asks" "[I", Cond.fieldLink RX4 99 "FrontDoorModel" "at" "[I", Cond.fieldLink RX4 105 "FrontDoorModel" "over" "[I", Cond.fieldLink RX4 163 "FrontDoorModel" "tick" "I", Cond.fieldLink RX4 108 "FrontDoorModel" "fails" "[Z", Cond.fieldLink RX4 92 "FrontDoorModel" "by" "[I", Cond.fieldLink RX4 95 "FrontDoorModel" "safe" "[Z", Cond.fieldLink RX4 74 "FrontDoorModel" "due" "[I", Cond.fieldLink RX4 206 "FrontDoorModel" "agains" "I", Cond.fieldLink RX4 17 "FrontDoorModel" "budget" "I", Cond.fieldLink RX4 121 "FrontDoorModel" "calls" "I", Cond.fieldLink RX4 77 "FrontDoorModel" "state" "[I", Cond.methodLink RX4 199 yX4_answer, Cond.instanceMethod yX4_answer, Cond.selects RX4 yX4_answer yX4_answer, Cond.initialized RX4, Cond.code yX4_answer cX4_answer 2 none, Cond.fieldLink RX4 47 "FrontDoorModel" "answers" "[I", Cond.fieldLink RX4 53 "FrontDoorModel" "row" "[I", Cond.fieldLink RX4 59 "FrontDoorModel" "penalty" "[I", Cond.fieldLink RX4 38 "FrontDoorModel" "health" "[I", Cond.methodLink RX4 196 yX4_ends, Cond.instanceMethod yX4_ends, Cond.selects RX4 yX4_ends yX4_ends]
def wsX4_comesBack_r2 : List Cond := [Cond.code yX4_ends cX4_ends 3 none, Cond.fieldLink RX4 89 "FrontDoorModel" "ended" "[I", Cond.methodLink RX4 190 yX4_takes, Cond.instanceMethod yX4_takes, Cond.selects RX4 yX4_takes yX4_takes, Cond.code yX4_takes cX4_takes 4 none, Cond.fieldLink RX4 41 "FrontDoorModel" "open" "[I", Cond.fieldLink RX4 102 "FrontDoorModel" "since" "[I", Cond.methodLink RX4 203 yX4_failure, Cond.instanceMethod yX4_failure, Cond.selects RX4 yX4_failure yX4_failure, Cond.code yX4_failure cX4_failure 3 none, Cond.fieldLink RX4 50 "FrontDoorModel" "failures" "[I", Cond.fieldLink RX4 13 "FrontDoorModel" "limit" "I", Cond.fieldLink RX4 56 "FrontDoorModel" "until" "[I", Cond.methodLink RX4 185 Lib.Math.min.name, Cond.static Lib.Math.min.name, Cond.initialized "java/lang/Math", Cond.code Lib.Math.min.name Lib.Math.min.code 2 (some .int), Cond.fieldLink RX4 62 "FrontDoorModel" "outs" "[I", Cond.methodLink RX4 181 yX4_outsNow, Cond.instanceMethod yX4_outsNow, Cond.selects RX4 yX4_outsNow yX4_outsNow, Cond.code yX4_outsNow cX4_outsNow 4 (some .int)]
def wsX4_comesBack_r3 : List Cond := [Cond.fieldLink RX4 114 "FrontDoorModel" "servers" "I"]
def wsX4_comesBack : List Cond := .code yX4_comesBack cX4_comesBack 5 (some .boolean) :: ((wsX4_comesBack_r1 ++ (wsX4_comesBack_r2 ++ wsX4_comesBack_r3)) ++ wsX40)
def wsX4_isDue_r1 : List Cond := [Cond.fieldLink RX4 74 "FrontDoorModel" "due" "[I", Cond.fieldLink RX4 163 "FrontDoorModel" "tick" "I", Cond.fieldLink RX4 77 "FrontDoorModel" "state" "[I", Cond.fieldLink RX4 80 "FrontDoorModel" "asks" "[I", Cond.fieldLink RX4 99 "FrontDoorModel" "at" "[I", Cond.methodLink RX4 190 yX4_takes, Cond.instanceMethod yX4_takes, Cond.selects RX4 yX4_takes yX4_takes, Cond.initialized RX4, Cond.code yX4_takes cX4_takes 4 none, Cond.fieldLink RX4 41 "FrontDoorModel" "open" "[I", Cond.fieldLink RX4 102 "FrontDoorModel" "since" "[I", Cond.fieldLink RX4 105 "FrontDoorModel" "over" "[I", Cond.fieldLink RX4 108 "FrontDoorModel" "fails" "[Z", Cond.methodLink RX4 203 yX4_failure, Cond.instanceMethod yX4_failure, Cond.selects RX4 yX4_failure yX4_failure, Cond.code yX4_failure cX4_failure 3 none, Cond.fieldLink RX4 50 "FrontDoorModel" "failures" "[I", Cond.fieldLink RX4 53 "FrontDoorModel" "row" "[I", Cond.fieldLink RX4 38 "FrontDoorModel" "health" "[I", Cond.fieldLink RX4 13 "FrontDoorModel" "limit" "I", Cond.fieldLink RX4 56 "FrontDoorModel" "until" "[I", Cond.fieldLink RX4 59 "FrontDoorModel" "penalty" "[I"]
def wsX4_isDue_r2 : List Cond := [Cond.methodLink RX4 185 Lib.Math.min.name, Cond.static Lib.Math.min.name, Cond.initialized "java/lang/Math", Cond.code Lib.Math.min.name Lib.Math.min.code 2 (some .int), Cond.fieldLink RX4 62 "FrontDoorModel" "outs" "[I", Cond.methodLink RX4 181 yX4_outsNow, Cond.instanceMethod yX4_outsNow, Cond.selects RX4 yX4_outsNow yX4_outsNow, Cond.code yX4_outsNow cX4_outsNow 4 (some .int), Cond.fieldLink RX4 114 "FrontDoorModel" "servers" "I", Cond.methodLink RX4 196 yX4_ends, Cond.instanceMethod yX4_ends, Cond.selects RX4 yX4_ends yX4_ends, Cond.code yX4_ends cX4_ends 3 none, Cond.fieldLink RX4 89 "FrontDoorModel" "ended" "[I"]
def wsX4_isDue : List Cond := .code yX4_isDue cX4_isDue 4 (some .boolean) :: ((wsX4_isDue_r1 ++ wsX4_isDue_r2) ++ wsX40)
def wsX4_hedges_r1 : List Cond := [Cond.fieldLink RX4 77 "FrontDoorModel" "state" "[I", Cond.fieldLink RX4 95 "FrontDoorModel" "safe" "[Z", Cond.fieldLink RX4 80 "FrontDoorModel" "asks" "[I", Cond.fieldLink RX4 102 "FrontDoorModel" "since" "[I", Cond.fieldLink RX4 139 "FrontDoorModel" "hedge" "I", Cond.fieldLink RX4 163 "FrontDoorModel" "tick" "I", Cond.fieldLink RX4 83 "FrontDoorModel" "tried" "[I", Cond.fieldLink RX4 209 "FrontDoorModel" "seconds" "I", Cond.methodLink RX4 167 yX4_mays, Cond.instanceMethod yX4_mays, Cond.selects RX4 yX4_mays yX4_mays, Cond.initialized RX4, Cond.code yX4_mays cX4_mays 4 (some .int), Cond.fieldLink RX4 114 "FrontDoorModel" "servers" "I", Cond.fieldLink RX4 41 "FrontDoorModel" "open" "[I", Cond.fieldLink RX4 26 "FrontDoorModel" "room" "[I", Cond.fieldLink RX4 38 "FrontDoorModel" "health" "[I", Cond.methodLink RX4 147 yX4_fewest, Cond.instanceMethod yX4_fewest, Cond.selects RX4 yX4_fewest yX4_fewest, Cond.code yX4_fewest cX4_fewest 4 (some .int), Cond.fieldLink RX4 20 "FrontDoorModel" "weight" "[I", Cond.methodLink RX4 174 yX4_ask, Cond.instanceMethod yX4_ask]
def wsX4_hedges_r2 : List Cond := [Cond.selects RX4 yX4_ask yX4_ask, Cond.code yX4_ask cX4_ask 4 none, Cond.fieldLink RX4 44 "FrontDoorModel" "asked" "[I", Cond.fieldLink RX4 160 "FrontDoorModel" "askings" "I", Cond.fieldLink RX4 99 "FrontDoorModel" "at" "[I", Cond.fieldLink RX4 105 "FrontDoorModel" "over" "[I", Cond.fieldLink RX4 35 "FrontDoorModel" "mute" "[I", Cond.constant RX4 166 (1000000), Cond.fieldLink RX4 29 "FrontDoorModel" "pace" "[I", Cond.fieldLink RX4 108 "FrontDoorModel" "fails" "[Z", Cond.fieldLink RX4 32 "FrontDoorModel" "breaks" "[I"]
def wsX4_hedges : List Cond := .code yX4_hedges cX4_hedges 3 none :: ((wsX4_hedges_r1 ++ wsX4_hedges_r2) ++ wsX40)
def wsX4_isAhead : List Cond := .code yX4_isAhead cX4_isAhead 3 (some .boolean) :: ([.fieldLink RX4 71 "FrontDoorModel" "grade" "[I", .fieldLink RX4 74 "FrontDoorModel" "due" "[I"] ++ wsX40)
def wsX4_line : List Cond := .code yX4_line cX4_line 3 none :: ([.fieldLink RX4 212 "FrontDoorModel" "queued" "I", .fieldLink RX4 121 "FrontDoorModel" "calls" "I", .fieldLink RX4 77 "FrontDoorModel" "state" "[I", .fieldLink RX4 111 "FrontDoorModel" "queue" "[I", .methodLink RX4 215 yX4_isAhead, .instanceMethod yX4_isAhead, .selects RX4 yX4_isAhead yX4_isAhead, .initialized RX4, .code yX4_isAhead cX4_isAhead 3 (some .boolean), .fieldLink RX4 71 "FrontDoorModel" "grade" "[I", .fieldLink RX4 74 "FrontDoorModel" "due" "[I"] ++ wsX40)
def wsX4_goesOn_r1 : List Cond := [Cond.fieldLink RX4 163 "FrontDoorModel" "tick" "I", Cond.fieldLink RX4 121 "FrontDoorModel" "calls" "I", Cond.fieldLink RX4 77 "FrontDoorModel" "state" "[I", Cond.fieldLink RX4 114 "FrontDoorModel" "servers" "I", Cond.fieldLink RX4 38 "FrontDoorModel" "health" "[I", Cond.fieldLink RX4 56 "FrontDoorModel" "until" "[I", Cond.fieldLink RX4 139 "FrontDoorModel" "hedge" "I", Cond.fieldLink RX4 212 "FrontDoorModel" "queued" "I", Cond.fieldLink RX4 111 "FrontDoorModel" "queue" "[I", Cond.fieldLink RX4 41 "FrontDoorModel" "open" "[I", Cond.methodLink RX4 218 yX4_comesBack, Cond.instanceMethod yX4_comesBack, Cond.selects RX4 yX4_comesBack yX4_comesBack, Cond.initialized RX4, Cond.code yX4_comesBack cX4_comesBack 5 (some .boolean), Cond.fieldLink RX4 80 "FrontDoorModel" "asks" "[I", Cond.fieldLink RX4 99 "FrontDoorModel" "at" "[I", Cond.fieldLink RX4 105 "FrontDoorModel" "over" "[I", Cond.fieldLink RX4 108 "FrontDoorModel" "fails" "[Z", Cond.fieldLink RX4 92 "FrontDoorModel" "by" "[I", Cond.fieldLink RX4 95 "FrontDoorModel" "safe" "[Z", Cond.fieldLink RX4 74 "FrontDoorModel" "due" "[I", Cond.fieldLink RX4 206 "FrontDoorModel" "agains" "I", Cond.fieldLink RX4 17 "FrontDoorModel" "budget" "I"]
def wsX4_goesOn_r2 : List Cond := [Cond.methodLink RX4 199 yX4_answer, Cond.instanceMethod yX4_answer, Cond.selects RX4 yX4_answer yX4_answer, Cond.code yX4_answer cX4_answer 2 none, Cond.fieldLink RX4 47 "FrontDoorModel" "answers" "[I", Cond.fieldLink RX4 53 "FrontDoorModel" "row" "[I", Cond.fieldLink RX4 59 "FrontDoorModel" "penalty" "[I", Cond.methodLink RX4 196 yX4_ends, Cond.instanceMethod yX4_ends, Cond.selects RX4 yX4_ends yX4_ends, Cond.code yX4_ends cX4_ends 3 none, Cond.fieldLink RX4 89 "FrontDoorModel" "ended" "[I", Cond.methodLink RX4 190 yX4_takes, Cond.instanceMethod yX4_takes, Cond.selects RX4 yX4_takes yX4_takes, Cond.code yX4_takes cX4_takes 4 none, Cond.fieldLink RX4 102 "FrontDoorModel" "since" "[I", Cond.methodLink RX4 203 yX4_failure, Cond.instanceMethod yX4_failure, Cond.selects RX4 yX4_failure yX4_failure, Cond.code yX4_failure cX4_failure 3 none, Cond.fieldLink RX4 50 "FrontDoorModel" "failures" "[I", Cond.fieldLink RX4 13 "FrontDoorModel" "limit" "I", Cond.methodLink RX4 185 Lib.Math.min.name]
def wsX4_goesOn_r3 : List Cond := [Cond.static Lib.Math.min.name, Cond.initialized "java/lang/Math", Cond.code Lib.Math.min.name Lib.Math.min.code 2 (some .int), Cond.fieldLink RX4 62 "FrontDoorModel" "outs" "[I", Cond.methodLink RX4 181 yX4_outsNow, Cond.instanceMethod yX4_outsNow, Cond.selects RX4 yX4_outsNow yX4_outsNow, Cond.code yX4_outsNow cX4_outsNow 4 (some .int), Cond.methodLink RX4 221 yX4_isDue, Cond.instanceMethod yX4_isDue, Cond.selects RX4 yX4_isDue yX4_isDue, Cond.code yX4_isDue cX4_isDue 4 (some .boolean), Cond.methodLink RX4 224 yX4_hedges, Cond.instanceMethod yX4_hedges, Cond.selects RX4 yX4_hedges yX4_hedges, Cond.code yX4_hedges cX4_hedges 3 none, Cond.fieldLink RX4 83 "FrontDoorModel" "tried" "[I", Cond.fieldLink RX4 209 "FrontDoorModel" "seconds" "I", Cond.methodLink RX4 167 yX4_mays, Cond.instanceMethod yX4_mays, Cond.selects RX4 yX4_mays yX4_mays, Cond.code yX4_mays cX4_mays 4 (some .int), Cond.fieldLink RX4 26 "FrontDoorModel" "room" "[I", Cond.methodLink RX4 147 yX4_fewest]
def wsX4_goesOn_r4 : List Cond := [Cond.instanceMethod yX4_fewest, Cond.selects RX4 yX4_fewest yX4_fewest, Cond.code yX4_fewest cX4_fewest 4 (some .int), Cond.fieldLink RX4 20 "FrontDoorModel" "weight" "[I", Cond.methodLink RX4 174 yX4_ask, Cond.instanceMethod yX4_ask, Cond.selects RX4 yX4_ask yX4_ask, Cond.code yX4_ask cX4_ask 4 none, Cond.fieldLink RX4 44 "FrontDoorModel" "asked" "[I", Cond.fieldLink RX4 160 "FrontDoorModel" "askings" "I", Cond.fieldLink RX4 35 "FrontDoorModel" "mute" "[I", Cond.constant RX4 166 (1000000), Cond.fieldLink RX4 29 "FrontDoorModel" "pace" "[I", Cond.fieldLink RX4 32 "FrontDoorModel" "breaks" "[I", Cond.methodLink RX4 227 yX4_line, Cond.instanceMethod yX4_line, Cond.selects RX4 yX4_line yX4_line, Cond.code yX4_line cX4_line 3 none, Cond.methodLink RX4 215 yX4_isAhead, Cond.instanceMethod yX4_isAhead, Cond.selects RX4 yX4_isAhead yX4_isAhead, Cond.code yX4_isAhead cX4_isAhead 3 (some .boolean), Cond.fieldLink RX4 71 "FrontDoorModel" "grade" "[I", Cond.methodLink RX4 178 yX4_asksFor]
def wsX4_goesOn_r5 : List Cond := [Cond.instanceMethod yX4_asksFor, Cond.selects RX4 yX4_asksFor yX4_asksFor, Cond.code yX4_asksFor cX4_asksFor 3 (some .boolean), Cond.fieldLink RX4 68 "FrontDoorModel" "key" "[I", Cond.methodLink RX4 170 yX4_picked, Cond.instanceMethod yX4_picked, Cond.selects RX4 yX4_picked yX4_picked, Cond.code yX4_picked cX4_picked 4 (some .int), Cond.fieldLink RX4 136 "FrontDoorModel" "rule" "I", Cond.methodLink RX4 150 yX4_byTurns, Cond.instanceMethod yX4_byTurns, Cond.selects RX4 yX4_byTurns yX4_byTurns, Cond.code yX4_byTurns cX4_byTurns 6 (some .int), Cond.fieldLink RX4 65 "FrontDoorModel" "credit" "[I", Cond.methodLink RX4 154 yX4_onRing, Cond.instanceMethod yX4_onRing, Cond.selects RX4 yX4_onRing yX4_onRing, Cond.code yX4_onRing cX4_onRing 8 (some .int), Cond.constant RX4 143 (65536), Cond.methodLink RX4 144 yX4_markOf, Cond.static yX4_markOf, Cond.code yX4_markOf cX4_markOf 2 (some .int), Cond.constant RX4 142 (40503), Cond.methodLink RX4 157 yX4_near]
def wsX4_goesOn_r6 : List Cond := [Cond.instanceMethod yX4_near, Cond.selects RX4 yX4_near yX4_near, Cond.code yX4_near cX4_near 5 (some .int), Cond.fieldLink RX4 23 "FrontDoorModel" "zone" "[I"]
def wsX4_goesOn : List Cond := .code yX4_goesOn cX4_goesOn 4 (some .int) :: ((wsX4_goesOn_r1 ++ (wsX4_goesOn_r2 ++ (wsX4_goesOn_r3 ++ (wsX4_goesOn_r4 ++ (wsX4_goesOn_r5 ++ wsX4_goesOn_r6))))) ++ wsX40)
def wsX4_ticks_r1 : List Cond := [Cond.fieldLink RX4 163 "FrontDoorModel" "tick" "I", Cond.methodLink RX4 124 yX4_refuse, Cond.instanceMethod yX4_refuse, Cond.selects RX4 yX4_refuse yX4_refuse, Cond.initialized RX4, Cond.code yX4_refuse cX4_refuse 2 (some .int), Cond.fieldLink RX4 7 "FrontDoorModel" "refusals" "[I", Cond.methodLink RX4 230 yX4_goesOn, Cond.instanceMethod yX4_goesOn, Cond.selects RX4 yX4_goesOn yX4_goesOn, Cond.code yX4_goesOn cX4_goesOn 4 (some .int), Cond.fieldLink RX4 121 "FrontDoorModel" "calls" "I", Cond.fieldLink RX4 77 "FrontDoorModel" "state" "[I", Cond.fieldLink RX4 114 "FrontDoorModel" "servers" "I", Cond.fieldLink RX4 38 "FrontDoorModel" "health" "[I", Cond.fieldLink RX4 56 "FrontDoorModel" "until" "[I", Cond.fieldLink RX4 139 "FrontDoorModel" "hedge" "I", Cond.fieldLink RX4 212 "FrontDoorModel" "queued" "I", Cond.fieldLink RX4 111 "FrontDoorModel" "queue" "[I", Cond.fieldLink RX4 41 "FrontDoorModel" "open" "[I", Cond.methodLink RX4 218 yX4_comesBack, Cond.instanceMethod yX4_comesBack, Cond.selects RX4 yX4_comesBack yX4_comesBack, Cond.code yX4_comesBack cX4_comesBack 5 (some .boolean)]
def wsX4_ticks_r2 : List Cond := [Cond.fieldLink RX4 80 "FrontDoorModel" "asks" "[I", Cond.fieldLink RX4 99 "FrontDoorModel" "at" "[I", Cond.fieldLink RX4 105 "FrontDoorModel" "over" "[I", Cond.fieldLink RX4 108 "FrontDoorModel" "fails" "[Z", Cond.fieldLink RX4 92 "FrontDoorModel" "by" "[I", Cond.fieldLink RX4 95 "FrontDoorModel" "safe" "[Z", Cond.fieldLink RX4 74 "FrontDoorModel" "due" "[I", Cond.fieldLink RX4 206 "FrontDoorModel" "agains" "I", Cond.fieldLink RX4 17 "FrontDoorModel" "budget" "I", Cond.methodLink RX4 199 yX4_answer, Cond.instanceMethod yX4_answer, Cond.selects RX4 yX4_answer yX4_answer, Cond.code yX4_answer cX4_answer 2 none, Cond.fieldLink RX4 47 "FrontDoorModel" "answers" "[I", Cond.fieldLink RX4 53 "FrontDoorModel" "row" "[I", Cond.fieldLink RX4 59 "FrontDoorModel" "penalty" "[I", Cond.methodLink RX4 196 yX4_ends, Cond.instanceMethod yX4_ends, Cond.selects RX4 yX4_ends yX4_ends, Cond.code yX4_ends cX4_ends 3 none, Cond.fieldLink RX4 89 "FrontDoorModel" "ended" "[I", Cond.methodLink RX4 190 yX4_takes, Cond.instanceMethod yX4_takes, Cond.selects RX4 yX4_takes yX4_takes]
def wsX4_ticks_r3 : List Cond := [Cond.code yX4_takes cX4_takes 4 none, Cond.fieldLink RX4 102 "FrontDoorModel" "since" "[I", Cond.methodLink RX4 203 yX4_failure, Cond.instanceMethod yX4_failure, Cond.selects RX4 yX4_failure yX4_failure, Cond.code yX4_failure cX4_failure 3 none, Cond.fieldLink RX4 50 "FrontDoorModel" "failures" "[I", Cond.fieldLink RX4 13 "FrontDoorModel" "limit" "I", Cond.methodLink RX4 185 Lib.Math.min.name, Cond.static Lib.Math.min.name, Cond.initialized "java/lang/Math", Cond.code Lib.Math.min.name Lib.Math.min.code 2 (some .int), Cond.fieldLink RX4 62 "FrontDoorModel" "outs" "[I", Cond.methodLink RX4 181 yX4_outsNow, Cond.instanceMethod yX4_outsNow, Cond.selects RX4 yX4_outsNow yX4_outsNow, Cond.code yX4_outsNow cX4_outsNow 4 (some .int), Cond.methodLink RX4 221 yX4_isDue, Cond.instanceMethod yX4_isDue, Cond.selects RX4 yX4_isDue yX4_isDue, Cond.code yX4_isDue cX4_isDue 4 (some .boolean), Cond.methodLink RX4 224 yX4_hedges, Cond.instanceMethod yX4_hedges, Cond.selects RX4 yX4_hedges yX4_hedges]
def wsX4_ticks_r4 : List Cond := [Cond.code yX4_hedges cX4_hedges 3 none, Cond.fieldLink RX4 83 "FrontDoorModel" "tried" "[I", Cond.fieldLink RX4 209 "FrontDoorModel" "seconds" "I", Cond.methodLink RX4 167 yX4_mays, Cond.instanceMethod yX4_mays, Cond.selects RX4 yX4_mays yX4_mays, Cond.code yX4_mays cX4_mays 4 (some .int), Cond.fieldLink RX4 26 "FrontDoorModel" "room" "[I", Cond.methodLink RX4 147 yX4_fewest, Cond.instanceMethod yX4_fewest, Cond.selects RX4 yX4_fewest yX4_fewest, Cond.code yX4_fewest cX4_fewest 4 (some .int), Cond.fieldLink RX4 20 "FrontDoorModel" "weight" "[I", Cond.methodLink RX4 174 yX4_ask, Cond.instanceMethod yX4_ask, Cond.selects RX4 yX4_ask yX4_ask, Cond.code yX4_ask cX4_ask 4 none, Cond.fieldLink RX4 44 "FrontDoorModel" "asked" "[I", Cond.fieldLink RX4 160 "FrontDoorModel" "askings" "I", Cond.fieldLink RX4 35 "FrontDoorModel" "mute" "[I", Cond.constant RX4 166 (1000000), Cond.fieldLink RX4 29 "FrontDoorModel" "pace" "[I", Cond.fieldLink RX4 32 "FrontDoorModel" "breaks" "[I", Cond.methodLink RX4 227 yX4_line]
def wsX4_ticks_r5 : List Cond := [Cond.instanceMethod yX4_line, Cond.selects RX4 yX4_line yX4_line, Cond.code yX4_line cX4_line 3 none, Cond.methodLink RX4 215 yX4_isAhead, Cond.instanceMethod yX4_isAhead, Cond.selects RX4 yX4_isAhead yX4_isAhead, Cond.code yX4_isAhead cX4_isAhead 3 (some .boolean), Cond.fieldLink RX4 71 "FrontDoorModel" "grade" "[I", Cond.methodLink RX4 178 yX4_asksFor, Cond.instanceMethod yX4_asksFor, Cond.selects RX4 yX4_asksFor yX4_asksFor, Cond.code yX4_asksFor cX4_asksFor 3 (some .boolean), Cond.fieldLink RX4 68 "FrontDoorModel" "key" "[I", Cond.methodLink RX4 170 yX4_picked, Cond.instanceMethod yX4_picked, Cond.selects RX4 yX4_picked yX4_picked, Cond.code yX4_picked cX4_picked 4 (some .int), Cond.fieldLink RX4 136 "FrontDoorModel" "rule" "I", Cond.methodLink RX4 150 yX4_byTurns, Cond.instanceMethod yX4_byTurns, Cond.selects RX4 yX4_byTurns yX4_byTurns, Cond.code yX4_byTurns cX4_byTurns 6 (some .int), Cond.fieldLink RX4 65 "FrontDoorModel" "credit" "[I", Cond.methodLink RX4 154 yX4_onRing]
def wsX4_ticks_r6 : List Cond := [Cond.instanceMethod yX4_onRing, Cond.selects RX4 yX4_onRing yX4_onRing, Cond.code yX4_onRing cX4_onRing 8 (some .int), Cond.constant RX4 143 (65536), Cond.methodLink RX4 144 yX4_markOf, Cond.static yX4_markOf, Cond.code yX4_markOf cX4_markOf 2 (some .int), Cond.constant RX4 142 (40503), Cond.methodLink RX4 157 yX4_near, Cond.instanceMethod yX4_near, Cond.selects RX4 yX4_near yX4_near, Cond.code yX4_near cX4_near 5 (some .int), Cond.fieldLink RX4 23 "FrontDoorModel" "zone" "[I"]
def wsX4_ticks : List Cond := .code yX4_ticks cX4_ticks 4 (some .int) :: ((wsX4_ticks_r1 ++ (wsX4_ticks_r2 ++ (wsX4_ticks_r3 ++ (wsX4_ticks_r4 ++ (wsX4_ticks_r5 ++ wsX4_ticks_r6))))) ++ wsX40)
def wsX4_pick_r1 : List Cond := [Cond.constant RX4 143 (65536), Cond.methodLink RX4 124 yX4_refuse, Cond.instanceMethod yX4_refuse, Cond.selects RX4 yX4_refuse yX4_refuse, Cond.initialized RX4, Cond.code yX4_refuse cX4_refuse 2 (some .int), Cond.fieldLink RX4 7 "FrontDoorModel" "refusals" "[I", Cond.methodLink RX4 167 yX4_mays, Cond.instanceMethod yX4_mays, Cond.selects RX4 yX4_mays yX4_mays, Cond.code yX4_mays cX4_mays 4 (some .int), Cond.fieldLink RX4 114 "FrontDoorModel" "servers" "I", Cond.fieldLink RX4 41 "FrontDoorModel" "open" "[I", Cond.fieldLink RX4 26 "FrontDoorModel" "room" "[I", Cond.fieldLink RX4 38 "FrontDoorModel" "health" "[I", Cond.methodLink RX4 170 yX4_picked, Cond.instanceMethod yX4_picked, Cond.selects RX4 yX4_picked yX4_picked, Cond.code yX4_picked cX4_picked 4 (some .int), Cond.fieldLink RX4 136 "FrontDoorModel" "rule" "I", Cond.methodLink RX4 150 yX4_byTurns, Cond.instanceMethod yX4_byTurns, Cond.selects RX4 yX4_byTurns yX4_byTurns, Cond.code yX4_byTurns cX4_byTurns 6 (some .int)]
def wsX4_pick_r2 : List Cond := [Cond.fieldLink RX4 20 "FrontDoorModel" "weight" "[I", Cond.fieldLink RX4 65 "FrontDoorModel" "credit" "[I", Cond.methodLink RX4 147 yX4_fewest, Cond.instanceMethod yX4_fewest, Cond.selects RX4 yX4_fewest yX4_fewest, Cond.code yX4_fewest cX4_fewest 4 (some .int), Cond.methodLink RX4 154 yX4_onRing, Cond.instanceMethod yX4_onRing, Cond.selects RX4 yX4_onRing yX4_onRing, Cond.code yX4_onRing cX4_onRing 8 (some .int), Cond.methodLink RX4 144 yX4_markOf, Cond.static yX4_markOf, Cond.code yX4_markOf cX4_markOf 2 (some .int), Cond.constant RX4 142 (40503), Cond.methodLink RX4 157 yX4_near, Cond.instanceMethod yX4_near, Cond.selects RX4 yX4_near yX4_near, Cond.code yX4_near cX4_near 5 (some .int), Cond.fieldLink RX4 23 "FrontDoorModel" "zone" "[I"]
def wsX4_pick : List Cond := .code yX4_pick cX4_pick 3 (some .int) :: ((wsX4_pick_r1 ++ wsX4_pick_r2) ++ wsX40)
def wsX4_callOf_r1 : List Cond := [Cond.fieldLink RX4 77 "FrontDoorModel" "state" "[I", Cond.fieldLink RX4 68 "FrontDoorModel" "key" "[I", Cond.fieldLink RX4 71 "FrontDoorModel" "grade" "[I", Cond.fieldLink RX4 74 "FrontDoorModel" "due" "[I", Cond.fieldLink RX4 95 "FrontDoorModel" "safe" "[Z", Cond.fieldLink RX4 80 "FrontDoorModel" "asks" "[I", Cond.fieldLink RX4 92 "FrontDoorModel" "by" "[I", Cond.fieldLink RX4 99 "FrontDoorModel" "at" "[I", Cond.fieldLink RX4 83 "FrontDoorModel" "tried" "[I", Cond.fieldLink RX4 86 "FrontDoorModel" "came" "[I", Cond.fieldLink RX4 89 "FrontDoorModel" "ended" "[I", Cond.methodLink RX4 193 yX4_isCall, Cond.instanceMethod yX4_isCall, Cond.selects RX4 yX4_isCall yX4_isCall, Cond.initialized RX4, Cond.code yX4_isCall cX4_isCall 2 (some .boolean), Cond.fieldLink RX4 121 "FrontDoorModel" "calls" "I", Cond.methodLink RX4 117 yX4_isIn, Cond.static yX4_isIn, Cond.code yX4_isIn cX4_isIn 2 (some .boolean), Cond.methodLink RX4 124 yX4_refuse, Cond.instanceMethod yX4_refuse, Cond.selects RX4 yX4_refuse yX4_refuse, Cond.code yX4_refuse cX4_refuse 2 (some .int)]
def wsX4_callOf_r2 : List Cond := [Cond.fieldLink RX4 7 "FrontDoorModel" "refusals" "[I"]
def wsX4_callOf : List Cond := .code yX4_callOf cX4_callOf 3 (some .int) :: ((wsX4_callOf_r1 ++ wsX4_callOf_r2) ++ wsX40)
def wsX4_mark : List Cond := .code yX4_mark cX4_mark 3 (some .int) :: ([.methodLink RX4 128 yX4_isServer, .instanceMethod yX4_isServer, .selects RX4 yX4_isServer yX4_isServer, .initialized RX4, .code yX4_isServer cX4_isServer 2 (some .boolean), .fieldLink RX4 114 "FrontDoorModel" "servers" "I", .methodLink RX4 117 yX4_isIn, .static yX4_isIn, .code yX4_isIn cX4_isIn 2 (some .boolean), .methodLink RX4 124 yX4_refuse, .instanceMethod yX4_refuse, .selects RX4 yX4_refuse yX4_refuse, .code yX4_refuse cX4_refuse 2 (some .int), .fieldLink RX4 7 "FrontDoorModel" "refusals" "[I", .methodLink RX4 144 yX4_markOf, .static yX4_markOf, .code yX4_markOf cX4_markOf 2 (some .int), .constant RX4 142 (40503), .constant RX4 143 (65536)] ++ wsX40)
def wsX4_queue : List Cond := .code yX4_queue cX4_queue 2 (some .int) :: ([.fieldLink RX4 212 "FrontDoorModel" "queued" "I", .fieldLink RX4 111 "FrontDoorModel" "queue" "[I", .methodLink RX4 227 yX4_line, .instanceMethod yX4_line, .selects RX4 yX4_line yX4_line, .initialized RX4, .code yX4_line cX4_line 3 none, .fieldLink RX4 121 "FrontDoorModel" "calls" "I", .fieldLink RX4 77 "FrontDoorModel" "state" "[I", .methodLink RX4 215 yX4_isAhead, .instanceMethod yX4_isAhead, .selects RX4 yX4_isAhead yX4_isAhead, .code yX4_isAhead cX4_isAhead 3 (some .boolean), .fieldLink RX4 71 "FrontDoorModel" "grade" "[I", .fieldLink RX4 74 "FrontDoorModel" "due" "[I", .methodLink RX4 117 yX4_isIn, .static yX4_isIn, .code yX4_isIn cX4_isIn 2 (some .boolean)] ++ wsX40)
def wsX4_share : List Cond := .code yX4_share cX4_share 2 (some .int) :: ([.fieldLink RX4 160 "FrontDoorModel" "askings" "I", .fieldLink RX4 44 "FrontDoorModel" "asked" "[I", .methodLink RX4 128 yX4_isServer, .instanceMethod yX4_isServer, .selects RX4 yX4_isServer yX4_isServer, .initialized RX4, .code yX4_isServer cX4_isServer 2 (some .boolean), .fieldLink RX4 114 "FrontDoorModel" "servers" "I", .methodLink RX4 117 yX4_isIn, .static yX4_isIn, .code yX4_isIn cX4_isIn 2 (some .boolean), .methodLink RX4 124 yX4_refuse, .instanceMethod yX4_refuse, .selects RX4 yX4_refuse yX4_refuse, .code yX4_refuse cX4_refuse 2 (some .int), .fieldLink RX4 7 "FrontDoorModel" "refusals" "[I"] ++ wsX40)
def wsX4_inState : List Cond := .code yX4_inState cX4_inState 4 (some .int) :: ([.fieldLink RX4 121 "FrontDoorModel" "calls" "I", .fieldLink RX4 77 "FrontDoorModel" "state" "[I"] ++ wsX40)
def wsX4_count : List Cond := .code yX4_count cX4_count 4 (some .int) :: ([.fieldLink RX4 7 "FrontDoorModel" "refusals" "[I", .fieldLink RX4 163 "FrontDoorModel" "tick" "I", .fieldLink RX4 114 "FrontDoorModel" "servers" "I", .fieldLink RX4 121 "FrontDoorModel" "calls" "I", .fieldLink RX4 160 "FrontDoorModel" "askings" "I", .fieldLink RX4 206 "FrontDoorModel" "agains" "I", .fieldLink RX4 209 "FrontDoorModel" "seconds" "I", .fieldLink RX4 41 "FrontDoorModel" "open" "[I", .methodLink RX4 235 yX4_inState, .instanceMethod yX4_inState, .selects RX4 yX4_inState yX4_inState, .initialized RX4, .code yX4_inState cX4_inState 4 (some .int), .fieldLink RX4 77 "FrontDoorModel" "state" "[I"] ++ wsX40)
def wsJ9_max_7cf53 : List Cond := .code yJ9_max_7cf53 cJ9_max_7cf53 2 (some .int) :: ([])
def wsJ9_min_7cf53 : List Cond := .code yJ9_min_7cf53 cJ9_min_7cf53 2 (some .int) :: ([])
def wsL_law_r1 : List Cond := [Cond.classLink RL 7 RX3, Cond.instantiable RX3 13, Cond.initialized RX3, Cond.classLink RL 10 RX4, Cond.instantiable RX4 43, Cond.initialized RX4, Cond.methodLink RL 9 yX3_init, Cond.instanceMethod yX3_init, Cond.code yX3_init cX3_init 1 none, Cond.methodLink RX3 1 objectInit, Cond.instanceMethod objectInit, Cond.code objectInit ⟨#[0xb1]⟩ 1 none, Cond.classLink RX3 7 RJx4a65c, Cond.instantiable RJx4a65c 3, Cond.initialized RJx4a65c, Cond.fieldLink RX3 10 "FrontDoor" "servers" "Ljava/util/ArrayList;", Cond.fieldLink RX3 16 "FrontDoor" "calls" "Ljava/util/ArrayList;", Cond.fieldLink RX3 19 "FrontDoor" "live" "Ljava/util/ArrayList;", Cond.fieldLink RX3 22 "FrontDoor" "line" "Ljava/util/ArrayList;", Cond.arrayClass .int, Cond.fieldLink RX3 25 "FrontDoor" "refusals" "[I", Cond.fieldLink RX3 29 "FrontDoor" "ruleNow" "I", Cond.fieldLink RX3 33 "FrontDoor" "limitNow" "I", Cond.fieldLink RX3 36 "FrontDoor" "budgetNow" "I"]
def wsL_law_r2 : List Cond := [Cond.methodLink RX3 9 yJx4a65c_init_da8c8, Cond.instanceMethod yJx4a65c_init_da8c8, Cond.code yJx4a65c_init_da8c8 cJx4a65c_init_da8c8 1 none, Cond.fieldLink RJx4a65c 39 "java/util/ArrayList" "DEFAULTCAPACITY_EMPTY_ELEMENTDATA" "[Ljava/lang/Object;", Cond.fieldLink RJx4a65c 9 "java/util/ArrayList" "elementData" "[Ljava/lang/Object;", Cond.methodLink RJx4a65c 1 yJxc12de_init_da8c8, Cond.instanceMethod yJxc12de_init_da8c8, Cond.initialized RJxc12de, Cond.code yJxc12de_init_da8c8 cJxc12de_init_da8c8 1 none, Cond.fieldLink RJxc12de 7 "java/util/AbstractList" "modCount" "I", Cond.methodLink RJxc12de 1 yJxa1e45_init_da8c8, Cond.instanceMethod yJxa1e45_init_da8c8, Cond.initialized RJxa1e45, Cond.code yJxa1e45_init_da8c8 cJxa1e45_init_da8c8 1 none, Cond.methodLink RJxa1e45 1 objectInit, Cond.methodLink RL 12 yX4_init, Cond.instanceMethod yX4_init, Cond.code yX4_init cX4_init 1 none, Cond.methodLink RX4 1 objectInit, Cond.fieldLink RX4 7 "FrontDoorModel" "refusals" "[I", Cond.fieldLink RX4 13 "FrontDoorModel" "limit" "I", Cond.fieldLink RX4 17 "FrontDoorModel" "budget" "I", Cond.fieldLink RX4 20 "FrontDoorModel" "weight" "[I", Cond.fieldLink RX4 23 "FrontDoorModel" "zone" "[I"]
def wsL_law_r3 : List Cond := [Cond.fieldLink RX4 26 "FrontDoorModel" "room" "[I", Cond.fieldLink RX4 29 "FrontDoorModel" "pace" "[I", Cond.fieldLink RX4 32 "FrontDoorModel" "breaks" "[I", Cond.fieldLink RX4 35 "FrontDoorModel" "mute" "[I", Cond.fieldLink RX4 38 "FrontDoorModel" "health" "[I", Cond.fieldLink RX4 41 "FrontDoorModel" "open" "[I", Cond.fieldLink RX4 44 "FrontDoorModel" "asked" "[I", Cond.fieldLink RX4 47 "FrontDoorModel" "answers" "[I", Cond.fieldLink RX4 50 "FrontDoorModel" "failures" "[I", Cond.fieldLink RX4 53 "FrontDoorModel" "row" "[I", Cond.fieldLink RX4 56 "FrontDoorModel" "until" "[I", Cond.fieldLink RX4 59 "FrontDoorModel" "penalty" "[I", Cond.fieldLink RX4 62 "FrontDoorModel" "outs" "[I", Cond.fieldLink RX4 65 "FrontDoorModel" "credit" "[I", Cond.fieldLink RX4 68 "FrontDoorModel" "key" "[I", Cond.fieldLink RX4 71 "FrontDoorModel" "grade" "[I", Cond.fieldLink RX4 74 "FrontDoorModel" "due" "[I", Cond.fieldLink RX4 77 "FrontDoorModel" "state" "[I", Cond.fieldLink RX4 80 "FrontDoorModel" "asks" "[I", Cond.fieldLink RX4 83 "FrontDoorModel" "tried" "[I", Cond.fieldLink RX4 86 "FrontDoorModel" "came" "[I", Cond.fieldLink RX4 89 "FrontDoorModel" "ended" "[I", Cond.fieldLink RX4 92 "FrontDoorModel" "by" "[I", Cond.arrayClass .boolean]
def wsL_law_r4 : List Cond := [Cond.fieldLink RX4 95 "FrontDoorModel" "safe" "[Z", Cond.fieldLink RX4 99 "FrontDoorModel" "at" "[I", Cond.fieldLink RX4 102 "FrontDoorModel" "since" "[I", Cond.fieldLink RX4 105 "FrontDoorModel" "over" "[I", Cond.fieldLink RX4 108 "FrontDoorModel" "fails" "[Z", Cond.fieldLink RX4 111 "FrontDoorModel" "queue" "[I", Cond.methodLink RL 13 yX3_server, Cond.instanceMethod yX3_server, Cond.selects RX3 yX3_server yX3_server, Cond.code yX3_server cX3_server 7 (some .int), Cond.classLink RX3 47 RX2, Cond.instantiable RX2 17, Cond.initialized RX2, Cond.fieldLink RX3 56 "FrontDoor$Server" "number" "I", Cond.methodLink RX3 39 yX3_refuse, Cond.instanceMethod yX3_refuse, Cond.selects RX3 yX3_refuse yX3_refuse, Cond.code yX3_refuse cX3_refuse 3 (some .int), Cond.methodLink RX3 43 yJx4a65c_size_8abf5, Cond.instanceMethod yJx4a65c_size_8abf5, Cond.selects RJx4a65c yJx4a65c_size_8abf5 yJx4a65c_size_8abf5, Cond.code yJx4a65c_size_8abf5 cJx4a65c_size_8abf5 1 (some .int), Cond.fieldLink RJx4a65c 48 "java/util/ArrayList" "size" "I", Cond.methodLink RX3 49 yX2_init]
def wsL_law_r5 : List Cond := [Cond.instanceMethod yX2_init, Cond.code yX2_init cX2_init 7 none, Cond.methodLink RX2 3 objectInit, Cond.fieldLink RX2 9 "FrontDoor$Server" "number" "I", Cond.fieldLink RX2 15 "FrontDoor$Server" "weight" "I", Cond.fieldLink RX2 18 "FrontDoor$Server" "zone" "I", Cond.fieldLink RX2 21 "FrontDoor$Server" "room" "I", Cond.fieldLink RX2 24 "FrontDoor$Server" "pace" "I", Cond.fieldLink RX2 27 "FrontDoor$Server" "breaks" "I", Cond.fieldLink RX2 30 "FrontDoor$Server" "health" "I", Cond.fieldLink RX2 33 "FrontDoor$Server" "penalty" "I", Cond.methodLink RX3 52 yJx4a65c_add_9ea2d, Cond.instanceMethod yJx4a65c_add_9ea2d, Cond.selects RJx4a65c yJx4a65c_add_9ea2d yJx4a65c_add_9ea2d, Cond.code yJx4a65c_add_9ea2d cJx4a65c_add_9ea2d 2 (some .boolean), Cond.fieldLink RJx4a65c 63 "java/util/ArrayList" "modCount" "I", Cond.sameField "java/util/ArrayList" "java/util/AbstractList" "modCount" "I", Cond.methodLink RJx4a65c 131 yJx4a65c_add_72be8, Cond.instanceMethod yJx4a65c_add_72be8, Cond.selects RJx4a65c yJx4a65c_add_72be8 yJx4a65c_add_72be8, Cond.code yJx4a65c_add_72be8 cJx4a65c_add_72be8 4 none, Cond.methodLink RJx4a65c 129 yJx4a65c_grow_d5877, Cond.instanceMethod yJx4a65c_grow_d5877, Cond.selects RJx4a65c yJx4a65c_grow_d5877 yJx4a65c_grow_d5877]
def wsL_law_r6 : List Cond := [Cond.code yJx4a65c_grow_d5877 cJx4a65c_grow_d5877 1 (some (.array (.object "java/lang/Object"))), Cond.methodLink RJx4a65c 69 yJx4a65c_grow_92f84, Cond.instanceMethod yJx4a65c_grow_92f84, Cond.selects RJx4a65c yJx4a65c_grow_92f84 yJx4a65c_grow_92f84, Cond.code yJx4a65c_grow_92f84 cJx4a65c_grow_92f84 4 (some (.array (.object "java/lang/Object"))), Cond.methodLink RJx4a65c 79 Lib.Math.max.name, Cond.static Lib.Math.max.name, Cond.initialized "java/lang/Math", Cond.code Lib.Math.max.name Lib.Math.max.code 2 (some .int), Cond.classLink RJx4a65c 7 "java/lang/Object", Cond.methodLink RJx4a65c 73 yJ8_newLength_cabcc, Cond.static yJ8_newLength_cabcc, Cond.initialized RJ8, Cond.code yJ8_newLength_cabcc cJ8_newLength_cabcc 4 (some .int), Cond.methodLink RJ8 194 Lib.Math.max.name, Cond.constant RJ8 200 (2147483639), Cond.methodLink RJ8 201 yJ8_hugeLength_7cf53, Cond.static yJ8_hugeLength_7cf53, Cond.code yJ8_hugeLength_7cf53 cJ8_hugeLength_7cf53 3 (some .int), Cond.methodLink RJx4a65c 66 yJ7_copyOf_1904c, Cond.static yJ7_copyOf_1904c, Cond.initialized RJ7, Cond.code yJ7_copyOf_1904c cJ7_copyOf_1904c 2 (some (.array (.object "java/lang/Object"))), Cond.methodLink RJ7 86 ⟨"java/lang/Object", "getClass", "()Ljava/lang/Class;"⟩]
def wsL_law_r7 : List Cond := [Cond.selects "[Ljava/lang/Object;" ⟨"java/lang/Object", "getClass", "()Ljava/lang/Class;"⟩ ⟨"java/lang/Object", "getClass", "()Ljava/lang/Class;"⟩, Cond.instanceMethod ⟨"java/lang/Object", "getClass", "()Ljava/lang/Class;"⟩, Cond.native ⟨"java/lang/Object", "getClass", "()Ljava/lang/Class;"⟩, Cond.methodLink RJ7 300 yJ7_copyOf_6403c, Cond.static yJ7_copyOf_6403c, Cond.code yJ7_copyOf_6403c cJ7_copyOf_6403c 4 (some (.array (.object "java/lang/Object"))), Cond.classLink RJ7 110 "[Ljava/lang/Object;", Cond.classLink RJ7 2 "java/lang/Object", Cond.methodLink RJ7 304 Lib.Math.min.name, Cond.static Lib.Math.min.name, Cond.code Lib.Math.min.name Lib.Math.min.code 2 (some .int), Cond.methodLink RJ7 150 arraycopyName, Cond.native arraycopyName, Cond.static arraycopyName, Cond.initialized "java/lang/System", Cond.methodLink RL 17 yX4_server, Cond.instanceMethod yX4_server, Cond.selects RX4 yX4_server yX4_server, Cond.code yX4_server cX4_server 7 (some .int), Cond.fieldLink RX4 114 "FrontDoorModel" "servers" "I", Cond.methodLink RX4 117 yX4_isIn, Cond.static yX4_isIn, Cond.code yX4_isIn cX4_isIn 2 (some .boolean), Cond.methodLink RX4 124 yX4_refuse]
def wsL_law_r8 : List Cond := [Cond.instanceMethod yX4_refuse, Cond.selects RX4 yX4_refuse yX4_refuse, Cond.code yX4_refuse cX4_refuse 2 (some .int), Cond.methodLink RL 18 yX3_set, Cond.instanceMethod yX3_set, Cond.selects RX3 yX3_set yX3_set, Cond.code yX3_set cX3_set 6 (some .int), Cond.fieldLink RX3 63 "FrontDoor$Server" "health" "I", Cond.methodLink RX3 59 yX3_serverAt, Cond.instanceMethod yX3_serverAt, Cond.selects RX3 yX3_serverAt yX3_serverAt, Cond.code yX3_serverAt cX3_serverAt 2 (some (.object "FrontDoor$Server")), Cond.classLink RX3 47 "FrontDoor$Server", Cond.methodLink RX3 151 yJx4a65c_get_915e3, Cond.instanceMethod yJx4a65c_get_915e3, Cond.selects RJx4a65c yJx4a65c_get_915e3 yJx4a65c_get_915e3, Cond.code yJx4a65c_get_915e3 cJx4a65c_get_915e3 2 (some (.object "java/lang/Object")), Cond.methodLink RJx4a65c 118 yJ15_checkIndex_7cf53, Cond.static yJ15_checkIndex_7cf53, Cond.initialized RJ15, Cond.code yJ15_checkIndex_7cf53 cJ15_checkIndex_7cf53 2 (some .int), Cond.methodLink RJ15 105 yJ3_checkIndex_8e157, Cond.static yJ3_checkIndex_8e157, Cond.initialized RJ3]
def wsL_law_r9 : List Cond := [Cond.code yJ3_checkIndex_8e157 cJ3_checkIndex_8e157 3 (some .int), Cond.methodLink RJx4a65c 123 yJx4a65c_elementData_915e3, Cond.instanceMethod yJx4a65c_elementData_915e3, Cond.selects RJx4a65c yJx4a65c_elementData_915e3 yJx4a65c_elementData_915e3, Cond.code yJx4a65c_elementData_915e3 cJx4a65c_elementData_915e3 2 (some (.object "java/lang/Object")), Cond.methodLink RX3 66 yX3_leastOf, Cond.static yX3_leastOf, Cond.code yX3_leastOf cX3_leastOf 1 (some .int), Cond.methodLink RX3 69 yX3_greatestOf, Cond.static yX3_greatestOf, Cond.code yX3_greatestOf cX3_greatestOf 1 (some .int), Cond.methodLink RX3 72 yX3_faultOf, Cond.static yX3_faultOf, Cond.code yX3_faultOf cX3_faultOf 3 (some .int), Cond.methodLink RX3 76 yX2_change, Cond.instanceMethod yX2_change, Cond.selects RX2 yX2_change yX2_change, Cond.code yX2_change cX2_change 4 (some .int), Cond.fieldLink RX2 54 "FrontDoor$Server" "mute" "I", Cond.methodLink RX2 74 yX2_tell, Cond.instanceMethod yX2_tell, Cond.selects RX2 yX2_tell yX2_tell, Cond.code yX2_tell cX2_tell 2 (some .int), Cond.fieldLink RX2 36 "FrontDoor$Server" "open" "I"]
def wsL_law_r10 : List Cond := [Cond.fieldLink RX2 51 "FrontDoor$Server" "asked" "I", Cond.fieldLink RX2 62 "FrontDoor$Server" "answers" "I", Cond.fieldLink RX2 77 "FrontDoor$Server" "failures" "I", Cond.fieldLink RX2 65 "FrontDoor$Server" "row" "I", Cond.fieldLink RX2 68 "FrontDoor$Server" "until" "I", Cond.fieldLink RX2 71 "FrontDoor$Server" "outs" "I", Cond.fieldLink RX2 80 "FrontDoor$Server" "credit" "I", Cond.constant RX2 83 (1000000000), Cond.methodLink RL 22 yX4_set, Cond.instanceMethod yX4_set, Cond.selects RX4 yX4_set yX4_set, Cond.code yX4_set cX4_set 5 (some .int), Cond.methodLink RX4 128 yX4_isServer, Cond.instanceMethod yX4_isServer, Cond.selects RX4 yX4_isServer yX4_isServer, Cond.code yX4_isServer cX4_isServer 2 (some .boolean), Cond.methodLink RX4 132 yX4_serverOf, Cond.instanceMethod yX4_serverOf, Cond.selects RX4 yX4_serverOf yX4_serverOf, Cond.code yX4_serverOf cX4_serverOf 3 (some .int), Cond.constant RX4 234 (1000000000), Cond.methodLink RL 23 yX3_drain, Cond.instanceMethod yX3_drain, Cond.selects RX3 yX3_drain yX3_drain]
def wsL_law_r11 : List Cond := [Cond.code yX3_drain cX3_drain 3 (some .int), Cond.fieldLink RX3 80 "FrontDoor$Server" "open" "I", Cond.methodLink RL 27 yX4_drain, Cond.instanceMethod yX4_drain, Cond.selects RX4 yX4_drain yX4_drain, Cond.code yX4_drain cX4_drain 2 (some .int), Cond.methodLink RL 28 yX3_back, Cond.instanceMethod yX3_back, Cond.selects RX3 yX3_back yX3_back, Cond.code yX3_back cX3_back 3 (some .int), Cond.fieldLink RX3 83 "FrontDoor$Server" "row" "I", Cond.fieldLink RX3 86 "FrontDoor$Server" "penalty" "I", Cond.methodLink RL 31 yX4_back, Cond.instanceMethod yX4_back, Cond.selects RX4 yX4_back yX4_back, Cond.code yX4_back cX4_back 2 (some .int), Cond.methodLink RL 32 yX3_rule, Cond.instanceMethod yX3_rule, Cond.selects RX3 yX3_rule yX3_rule, Cond.code yX3_rule cX3_rule 3 (some .int), Cond.methodLink RL 35 yX4_rule, Cond.instanceMethod yX4_rule, Cond.selects RX4 yX4_rule yX4_rule, Cond.code yX4_rule cX4_rule 3 (some .int)]
def wsL_law_r12 : List Cond := [Cond.fieldLink RX4 136 "FrontDoorModel" "rule" "I", Cond.methodLink RL 36 yX3_limit, Cond.instanceMethod yX3_limit, Cond.selects RX3 yX3_limit yX3_limit, Cond.code yX3_limit cX3_limit 4 (some .int), Cond.methodLink RL 39 yX4_limit, Cond.instanceMethod yX4_limit, Cond.selects RX4 yX4_limit yX4_limit, Cond.code yX4_limit cX4_limit 3 (some .int), Cond.methodLink RL 40 yX3_budget, Cond.instanceMethod yX3_budget, Cond.selects RX3 yX3_budget yX3_budget, Cond.code yX3_budget cX3_budget 4 (some .int), Cond.methodLink RL 43 yX4_budget, Cond.instanceMethod yX4_budget, Cond.selects RX4 yX4_budget yX4_budget, Cond.code yX4_budget cX4_budget 3 (some .int), Cond.methodLink RL 44 yX3_hedge, Cond.instanceMethod yX3_hedge, Cond.selects RX3 yX3_hedge yX3_hedge, Cond.code yX3_hedge cX3_hedge 4 (some .int), Cond.fieldLink RX3 89 "FrontDoor" "hedgeNow" "I", Cond.methodLink RL 47 yX4_hedge, Cond.instanceMethod yX4_hedge]
def wsL_law_r13 : List Cond := [Cond.selects RX4 yX4_hedge yX4_hedge, Cond.code yX4_hedge cX4_hedge 3 (some .int), Cond.fieldLink RX4 139 "FrontDoorModel" "hedge" "I", Cond.methodLink RL 48 yX3_call, Cond.instanceMethod yX3_call, Cond.selects RX3 yX3_call yX3_call, Cond.code yX3_call cX3_call 6 (some .int), Cond.constant RX3 92 (65535), Cond.classLink RX3 93 RX1, Cond.instantiable RX1 12, Cond.initialized RX1, Cond.fieldLink RX3 95 "FrontDoor" "tick" "I", Cond.fieldLink RX3 109 "FrontDoor$Call" "number" "I", Cond.methodLink RX3 98 yX1_init, Cond.instanceMethod yX1_init, Cond.code yX1_init cX1_init 7 none, Cond.methodLink RX1 3 objectInit, Cond.fieldLink RX1 9 "FrontDoor$Call" "number" "I", Cond.fieldLink RX1 15 "FrontDoor$Call" "key" "I", Cond.fieldLink RX1 18 "FrontDoor$Call" "grade" "I", Cond.fieldLink RX1 21 "FrontDoor$Call" "came" "I", Cond.fieldLink RX1 24 "FrontDoor$Call" "due" "I", Cond.fieldLink RX1 27 "FrontDoor$Call" "safe" "Z", Cond.fieldLink RX1 31 "FrontDoor$Call" "state" "I"]
def wsL_law_r14 : List Cond := [Cond.fieldLink RX1 34 "FrontDoor$Call" "ended" "I", Cond.fieldLink RX1 37 "FrontDoor$Call" "answerer" "I", Cond.methodLink RX3 101 yX3_askByRule, Cond.instanceMethod yX3_askByRule, Cond.selects RX3 yX3_askByRule yX3_askByRule, Cond.code yX3_askByRule cX3_askByRule 3 (some .boolean), Cond.fieldLink RX3 199 "FrontDoor$Call" "key" "I", Cond.fieldLink RX3 202 "FrontDoor$Call" "tried" "I", Cond.methodLink RX3 140 yX3_chosen, Cond.instanceMethod yX3_chosen, Cond.selects RX3 yX3_chosen yX3_chosen, Cond.code yX3_chosen cX3_chosen 4 (some (.object "FrontDoor$Server")), Cond.methodLink RX3 173 yX3_byTurn, Cond.instanceMethod yX3_byTurn, Cond.selects RX3 yX3_byTurn yX3_byTurn, Cond.code yX3_byTurn cX3_byTurn 5 (some (.object "FrontDoor$Server")), Cond.fieldLink RX3 186 "FrontDoor$Server" "credit" "I", Cond.fieldLink RX3 189 "FrontDoor$Server" "weight" "I", Cond.methodLink RX3 182 yX2_mayBeAsked, Cond.instanceMethod yX2_mayBeAsked, Cond.selects RX2 yX2_mayBeAsked yX2_mayBeAsked, Cond.code yX2_mayBeAsked cX2_mayBeAsked 2 (some .boolean), Cond.methodLink RX3 176 yX3_byRing, Cond.instanceMethod yX3_byRing]
def wsL_law_r15 : List Cond := [Cond.selects RX3 yX3_byRing yX3_byRing, Cond.code yX3_byRing cX3_byRing 7 (some (.object "FrontDoor$Server")), Cond.constant RX3 195 (65536), Cond.methodLink RX3 196 yX2_wayFrom, Cond.instanceMethod yX2_wayFrom, Cond.selects RX2 yX2_wayFrom yX2_wayFrom, Cond.code yX2_wayFrom cX2_wayFrom 4 (some .int), Cond.constant RX2 40 (65535), Cond.methodLink RX2 45 Lib.Math.min.name, Cond.methodLink RX2 41 yX2_placeOfMark, Cond.instanceMethod yX2_placeOfMark, Cond.selects RX2 yX2_placeOfMark yX2_placeOfMark, Cond.code yX2_placeOfMark cX2_placeOfMark 2 (some .int), Cond.constant RX2 39 (40503), Cond.methodLink RX3 179 yX3_byFewest, Cond.instanceMethod yX3_byFewest, Cond.selects RX3 yX3_byFewest yX3_byFewest, Cond.code yX3_byFewest cX3_byFewest 7 (some (.object "FrontDoor$Server")), Cond.fieldLink RX3 192 "FrontDoor$Server" "zone" "I", Cond.methodLink RX3 205 yX3_settleCredits, Cond.instanceMethod yX3_settleCredits, Cond.selects RX3 yX3_settleCredits yX3_settleCredits, Cond.code yX3_settleCredits cX3_settleCredits 6 none, Cond.methodLink RX3 209 yX2_takeAsking]
def wsL_law_r16 : List Cond := [Cond.instanceMethod yX2_takeAsking, Cond.selects RX2 yX2_takeAsking yX2_takeAsking, Cond.code yX2_takeAsking cX2_takeAsking 4 (some (.object "FrontDoor$Asking")), Cond.classLink RX2 57 RX0, Cond.instantiable RX0 4, Cond.initialized RX0, Cond.methodLink RX2 59 yX0_init, Cond.instanceMethod yX0_init, Cond.code yX0_init cX0_init 5 none, Cond.methodLink RX0 1 objectInit, Cond.fieldLink RX0 7 "FrontDoor$Asking" "server" "LFrontDoor$Server;", Cond.fieldLink RX0 13 "FrontDoor$Asking" "since" "I", Cond.fieldLink RX0 17 "FrontDoor$Asking" "over" "I", Cond.fieldLink RX0 20 "FrontDoor$Asking" "fails" "Z", Cond.methodLink RX3 213 yX1_begin, Cond.instanceMethod yX1_begin, Cond.selects RX1 yX1_begin yX1_begin, Cond.code yX1_begin cX1_begin 2 none, Cond.fieldLink RX1 40 "FrontDoor$Call" "first" "LFrontDoor$Asking;", Cond.fieldLink RX1 44 "FrontDoor$Call" "second" "LFrontDoor$Asking;", Cond.fieldLink RX1 47 "FrontDoor$Call" "tried" "I", Cond.fieldLink RX1 50 "FrontDoor$Asking" "server" "LFrontDoor$Server;", Cond.fieldLink RX1 56 "FrontDoor$Server" "number" "I", Cond.methodLink RX3 105 yX3_joinLine]
def wsL_law_r17 : List Cond := [Cond.instanceMethod yX3_joinLine, Cond.selects RX3 yX3_joinLine yX3_joinLine, Cond.code yX3_joinLine cX3_joinLine 3 none, Cond.fieldLink RX3 118 "FrontDoor$Call" "state" "I", Cond.classLink RX3 93 "FrontDoor$Call", Cond.methodLink RX3 217 yX1_goesAheadOf, Cond.instanceMethod yX1_goesAheadOf, Cond.selects RX1 yX1_goesAheadOf yX1_goesAheadOf, Cond.code yX1_goesAheadOf cX1_goesAheadOf 2 (some .boolean), Cond.methodLink RX3 220 yJx4a65c_add_7a177, Cond.instanceMethod yJx4a65c_add_7a177, Cond.selects RJx4a65c yJx4a65c_add_7a177 yJx4a65c_add_7a177, Cond.code yJx4a65c_add_7a177 cJx4a65c_add_7a177 5 none, Cond.methodLink RJx4a65c 112 arraycopyName, Cond.methodLink RJx4a65c 135 yJx4a65c_rangeCheckForAdd_d00df, Cond.instanceMethod yJx4a65c_rangeCheckForAdd_d00df, Cond.selects RJx4a65c yJx4a65c_rangeCheckForAdd_d00df yJx4a65c_rangeCheckForAdd_d00df, Cond.code yJx4a65c_rangeCheckForAdd_d00df cJx4a65c_rangeCheckForAdd_d00df 2 none, Cond.methodLink RL 52 yX4_call, Cond.instanceMethod yX4_call, Cond.selects RX4 yX4_call yX4_call, Cond.code yX4_call cX4_call 7 (some .int), Cond.constant RX4 143 (65536), Cond.fieldLink RX4 121 "FrontDoorModel" "calls" "I"]
def wsL_law_r18 : List Cond := [Cond.fieldLink RX4 163 "FrontDoorModel" "tick" "I", Cond.methodLink RX4 178 yX4_asksFor, Cond.instanceMethod yX4_asksFor, Cond.selects RX4 yX4_asksFor yX4_asksFor, Cond.code yX4_asksFor cX4_asksFor 3 (some .boolean), Cond.methodLink RX4 167 yX4_mays, Cond.instanceMethod yX4_mays, Cond.selects RX4 yX4_mays yX4_mays, Cond.code yX4_mays cX4_mays 4 (some .int), Cond.methodLink RX4 170 yX4_picked, Cond.instanceMethod yX4_picked, Cond.selects RX4 yX4_picked yX4_picked, Cond.code yX4_picked cX4_picked 4 (some .int), Cond.methodLink RX4 150 yX4_byTurns, Cond.instanceMethod yX4_byTurns, Cond.selects RX4 yX4_byTurns yX4_byTurns, Cond.code yX4_byTurns cX4_byTurns 6 (some .int), Cond.methodLink RX4 147 yX4_fewest, Cond.instanceMethod yX4_fewest, Cond.selects RX4 yX4_fewest yX4_fewest, Cond.code yX4_fewest cX4_fewest 4 (some .int), Cond.methodLink RX4 154 yX4_onRing, Cond.instanceMethod yX4_onRing, Cond.selects RX4 yX4_onRing yX4_onRing]
def wsL_law_r19 : List Cond := [Cond.code yX4_onRing cX4_onRing 8 (some .int), Cond.methodLink RX4 144 yX4_markOf, Cond.static yX4_markOf, Cond.code yX4_markOf cX4_markOf 2 (some .int), Cond.constant RX4 142 (40503), Cond.methodLink RX4 157 yX4_near, Cond.instanceMethod yX4_near, Cond.selects RX4 yX4_near yX4_near, Cond.code yX4_near cX4_near 5 (some .int), Cond.methodLink RX4 174 yX4_ask, Cond.instanceMethod yX4_ask, Cond.selects RX4 yX4_ask yX4_ask, Cond.code yX4_ask cX4_ask 4 none, Cond.fieldLink RX4 160 "FrontDoorModel" "askings" "I", Cond.constant RX4 166 (1000000), Cond.methodLink RL 53 yX3_off, Cond.instanceMethod yX3_off, Cond.selects RX3 yX3_off yX3_off, Cond.code yX3_off cX3_off 3 (some .int), Cond.methodLink RX3 110 yX3_callAt, Cond.instanceMethod yX3_callAt, Cond.selects RX3 yX3_callAt yX3_callAt, Cond.code yX3_callAt cX3_callAt 2 (some (.object "FrontDoor$Call")), Cond.methodLink RX3 114 yX1_hasEnded]
def wsL_law_r20 : List Cond := [Cond.instanceMethod yX1_hasEnded, Cond.selects RX1 yX1_hasEnded yX1_hasEnded, Cond.code yX1_hasEnded cX1_hasEnded 1 (some .boolean), Cond.methodLink RX3 121 yX3_leaveLine, Cond.instanceMethod yX3_leaveLine, Cond.selects RX3 yX3_leaveLine yX3_leaveLine, Cond.code yX3_leaveLine cX3_leaveLine 3 none, Cond.methodLink RX3 223 yJx4a65c_remove_915e3, Cond.instanceMethod yJx4a65c_remove_915e3, Cond.selects RJx4a65c yJx4a65c_remove_915e3 yJx4a65c_remove_915e3, Cond.code yJx4a65c_remove_915e3 cJx4a65c_remove_915e3 4 (some (.object "java/lang/Object")), Cond.methodLink RJx4a65c 144 yJx4a65c_fastRemove_b59b0, Cond.instanceMethod yJx4a65c_fastRemove_b59b0, Cond.selects RJx4a65c yJx4a65c_fastRemove_b59b0 yJx4a65c_fastRemove_b59b0, Cond.code yJx4a65c_fastRemove_b59b0 cJx4a65c_fastRemove_b59b0 4 none, Cond.methodLink RX3 124 yX1_callOffAll, Cond.instanceMethod yX1_callOffAll, Cond.selects RX1 yX1_callOffAll yX1_callOffAll, Cond.code yX1_callOffAll cX1_callOffAll 1 none, Cond.methodLink RX1 62 yX1_letGo, Cond.instanceMethod yX1_letGo, Cond.selects RX1 yX1_letGo yX1_letGo, Cond.code yX1_letGo cX1_letGo 2 none, Cond.fieldLink RX1 59 "FrontDoor$Server" "open" "I"]
def wsL_law_r21 : List Cond := [Cond.methodLink RX3 127 yX3_end, Cond.instanceMethod yX3_end, Cond.selects RX3 yX3_end yX3_end, Cond.code yX3_end cX3_end 3 none, Cond.fieldLink RX3 226 "FrontDoor$Call" "ended" "I", Cond.fieldLink RX3 134 "FrontDoor" "endedSoFar" "I", Cond.methodLink RX3 131 yX3_dropEnded, Cond.instanceMethod yX3_dropEnded, Cond.selects RX3 yX3_dropEnded yX3_dropEnded, Cond.code yX3_dropEnded cX3_dropEnded 2 none, Cond.methodLink RL 56 yX4_off, Cond.instanceMethod yX4_off, Cond.selects RX4 yX4_off yX4_off, Cond.code yX4_off cX4_off 2 (some .int), Cond.methodLink RX4 193 yX4_isCall, Cond.instanceMethod yX4_isCall, Cond.selects RX4 yX4_isCall yX4_isCall, Cond.code yX4_isCall cX4_isCall 2 (some .boolean), Cond.methodLink RX4 196 yX4_ends, Cond.instanceMethod yX4_ends, Cond.selects RX4 yX4_ends yX4_ends, Cond.code yX4_ends cX4_ends 3 none, Cond.methodLink RX4 190 yX4_takes, Cond.instanceMethod yX4_takes]
def wsL_law_r22 : List Cond := [Cond.selects RX4 yX4_takes yX4_takes, Cond.code yX4_takes cX4_takes 4 none, Cond.methodLink RL 57 yX3_ticks, Cond.instanceMethod yX3_ticks, Cond.selects RX3 yX3_ticks yX3_ticks, Cond.code yX3_ticks cX3_ticks 5 (some .int), Cond.methodLink RX3 137 yX3_passTick, Cond.instanceMethod yX3_passTick, Cond.selects RX3 yX3_passTick yX3_passTick, Cond.code yX3_passTick cX3_passTick 1 none, Cond.methodLink RX3 229 yX3_takeWhatIsOver, Cond.instanceMethod yX3_takeWhatIsOver, Cond.selects RX3 yX3_takeWhatIsOver yX3_takeWhatIsOver, Cond.code yX3_takeWhatIsOver cX3_takeWhatIsOver 5 none, Cond.fieldLink RX3 247 "FrontDoor$Call" "first" "LFrontDoor$Asking;", Cond.fieldLink RX3 251 "FrontDoor$Call" "second" "LFrontDoor$Asking;", Cond.fieldLink RX3 254 "FrontDoor$Asking" "over" "I", Cond.methodLink RX3 259 yX3_takeAnswer, Cond.instanceMethod yX3_takeAnswer, Cond.selects RX3 yX3_takeAnswer yX3_takeAnswer, Cond.code yX3_takeAnswer cX3_takeAnswer 3 none, Cond.fieldLink RX3 263 "FrontDoor$Asking" "fails" "Z", Cond.fieldLink RX3 267 "FrontDoor$Asking" "server" "LFrontDoor$Server;", Cond.fieldLink RX3 274 "FrontDoor$Call" "answerer" "I"]
def wsL_law_r23 : List Cond := [Cond.fieldLink RX3 284 "FrontDoor$Call" "safe" "Z", Cond.fieldLink RX3 287 "FrontDoor$Call" "due" "I", Cond.fieldLink RX3 164 "FrontDoor" "agains" "I", Cond.methodLink RX3 271 yX2_answer, Cond.instanceMethod yX2_answer, Cond.selects RX2 yX2_answer yX2_answer, Cond.code yX2_answer cX2_answer 1 none, Cond.methodLink RX3 277 yX1_letGo, Cond.methodLink RX3 280 yX3_failureOf, Cond.instanceMethod yX3_failureOf, Cond.selects RX3 yX3_failureOf yX3_failureOf, Cond.code yX3_failureOf cX3_failureOf 2 none, Cond.fieldLink RX3 293 "FrontDoor$Server" "failures" "I", Cond.methodLink RX3 296 yX3_oneMoreOutIsTooMany, Cond.instanceMethod yX3_oneMoreOutIsTooMany, Cond.selects RX3 yX3_oneMoreOutIsTooMany yX3_oneMoreOutIsTooMany, Cond.code yX3_oneMoreOutIsTooMany cX3_oneMoreOutIsTooMany 5 (some .boolean), Cond.methodLink RX3 299 yX2_goOut, Cond.instanceMethod yX2_goOut, Cond.selects RX2 yX2_goOut yX2_goOut, Cond.code yX2_goOut cX2_goOut 2 none, Cond.methodLink RX3 290 yX3_budgetHolds, Cond.instanceMethod yX3_budgetHolds, Cond.selects RX3 yX3_budgetHolds yX3_budgetHolds]
def wsL_law_r24 : List Cond := [Cond.code yX3_budgetHolds cX3_budgetHolds 1 (some .boolean), Cond.methodLink RX3 232 yX3_meetDues, Cond.instanceMethod yX3_meetDues, Cond.selects RX3 yX3_meetDues yX3_meetDues, Cond.code yX3_meetDues cX3_meetDues 3 none, Cond.methodLink RX3 303 yX3_failByDue, Cond.instanceMethod yX3_failByDue, Cond.selects RX3 yX3_failByDue yX3_failByDue, Cond.code yX3_failByDue cX3_failByDue 4 none, Cond.methodLink RX3 235 yX3_tryThoseOut, Cond.instanceMethod yX3_tryThoseOut, Cond.selects RX3 yX3_tryThoseOut yX3_tryThoseOut, Cond.code yX3_tryThoseOut cX3_tryThoseOut 3 none, Cond.fieldLink RX3 306 "FrontDoor$Server" "until" "I", Cond.methodLink RX3 238 yX3_hedgeSlow, Cond.instanceMethod yX3_hedgeSlow, Cond.selects RX3 yX3_hedgeSlow yX3_hedgeSlow, Cond.code yX3_hedgeSlow cX3_hedgeSlow 5 none, Cond.fieldLink RX3 309 "FrontDoor$Asking" "since" "I", Cond.fieldLink RX3 167 "FrontDoor" "seconds" "I", Cond.methodLink RX3 241 yX3_askQueued, Cond.instanceMethod yX3_askQueued, Cond.selects RX3 yX3_askQueued yX3_askQueued, Cond.code yX3_askQueued cX3_askQueued 4 none]
def wsL_law_r25 : List Cond := [Cond.methodLink RX3 244 yX3_letDrainedGo, Cond.instanceMethod yX3_letDrainedGo, Cond.selects RX3 yX3_letDrainedGo yX3_letDrainedGo, Cond.code yX3_letDrainedGo cX3_letDrainedGo 3 none, Cond.methodLink RL 60 yX4_ticks, Cond.instanceMethod yX4_ticks, Cond.selects RX4 yX4_ticks yX4_ticks, Cond.code yX4_ticks cX4_ticks 4 (some .int), Cond.methodLink RX4 230 yX4_goesOn, Cond.instanceMethod yX4_goesOn, Cond.selects RX4 yX4_goesOn yX4_goesOn, Cond.code yX4_goesOn cX4_goesOn 4 (some .int), Cond.fieldLink RX4 212 "FrontDoorModel" "queued" "I", Cond.methodLink RX4 218 yX4_comesBack, Cond.instanceMethod yX4_comesBack, Cond.selects RX4 yX4_comesBack yX4_comesBack, Cond.code yX4_comesBack cX4_comesBack 5 (some .boolean), Cond.fieldLink RX4 206 "FrontDoorModel" "agains" "I", Cond.methodLink RX4 199 yX4_answer, Cond.instanceMethod yX4_answer, Cond.selects RX4 yX4_answer yX4_answer, Cond.code yX4_answer cX4_answer 2 none, Cond.methodLink RX4 203 yX4_failure, Cond.instanceMethod yX4_failure]
def wsL_law_r26 : List Cond := [Cond.selects RX4 yX4_failure yX4_failure, Cond.code yX4_failure cX4_failure 3 none, Cond.methodLink RX4 185 Lib.Math.min.name, Cond.methodLink RX4 181 yX4_outsNow, Cond.instanceMethod yX4_outsNow, Cond.selects RX4 yX4_outsNow yX4_outsNow, Cond.code yX4_outsNow cX4_outsNow 4 (some .int), Cond.methodLink RX4 221 yX4_isDue, Cond.instanceMethod yX4_isDue, Cond.selects RX4 yX4_isDue yX4_isDue, Cond.code yX4_isDue cX4_isDue 4 (some .boolean), Cond.methodLink RX4 224 yX4_hedges, Cond.instanceMethod yX4_hedges, Cond.selects RX4 yX4_hedges yX4_hedges, Cond.code yX4_hedges cX4_hedges 3 none, Cond.fieldLink RX4 209 "FrontDoorModel" "seconds" "I", Cond.methodLink RX4 227 yX4_line, Cond.instanceMethod yX4_line, Cond.selects RX4 yX4_line yX4_line, Cond.code yX4_line cX4_line 3 none, Cond.methodLink RX4 215 yX4_isAhead, Cond.instanceMethod yX4_isAhead, Cond.selects RX4 yX4_isAhead yX4_isAhead, Cond.code yX4_isAhead cX4_isAhead 3 (some .boolean)]
def wsL_law_r27 : List Cond := [Cond.methodLink RL 61 yX3_pick, Cond.instanceMethod yX3_pick, Cond.selects RX3 yX3_pick yX3_pick, Cond.code yX3_pick cX3_pick 4 (some .int), Cond.methodLink RL 64 yX4_pick, Cond.instanceMethod yX4_pick, Cond.selects RX4 yX4_pick yX4_pick, Cond.code yX4_pick cX4_pick 3 (some .int), Cond.methodLink RL 65 yX3_callOf, Cond.instanceMethod yX3_callOf, Cond.selects RX3 yX3_callOf yX3_callOf, Cond.code yX3_callOf cX3_callOf 4 (some .int), Cond.methodLink RX3 144 yX1_tell, Cond.instanceMethod yX1_tell, Cond.selects RX1 yX1_tell yX1_tell, Cond.code yX1_tell cX1_tell 2 (some .int), Cond.methodLink RL 69 yX4_callOf, Cond.instanceMethod yX4_callOf, Cond.selects RX4 yX4_callOf yX4_callOf, Cond.code yX4_callOf cX4_callOf 3 (some .int), Cond.methodLink RL 70 yX3_serverOf, Cond.instanceMethod yX3_serverOf, Cond.selects RX3 yX3_serverOf yX3_serverOf, Cond.code yX3_serverOf cX3_serverOf 4 (some .int)]
def wsL_law_r28 : List Cond := [Cond.methodLink RX3 147 yX2_tell, Cond.methodLink RL 73 yX4_serverOf, Cond.methodLink RL 74 yX3_mark, Cond.instanceMethod yX3_mark, Cond.selects RX3 yX3_mark yX3_mark, Cond.code yX3_mark cX3_mark 4 (some .int), Cond.methodLink RX3 148 yX2_placeOfMark, Cond.methodLink RL 77 yX4_mark, Cond.instanceMethod yX4_mark, Cond.selects RX4 yX4_mark yX4_mark, Cond.code yX4_mark cX4_mark 3 (some .int), Cond.methodLink RL 78 yX3_queue, Cond.instanceMethod yX3_queue, Cond.selects RX3 yX3_queue yX3_queue, Cond.code yX3_queue cX3_queue 2 (some .int), Cond.methodLink RL 81 yX4_queue, Cond.instanceMethod yX4_queue, Cond.selects RX4 yX4_queue yX4_queue, Cond.code yX4_queue cX4_queue 2 (some .int), Cond.methodLink RL 82 yX3_share, Cond.instanceMethod yX3_share, Cond.selects RX3 yX3_share yX3_share, Cond.code yX3_share cX3_share 4 (some .int), Cond.fieldLink RX3 158 "FrontDoor$Server" "asked" "I"]
def wsL_law_r29 : List Cond := [Cond.methodLink RX3 155 yX3_askingsSoFar, Cond.instanceMethod yX3_askingsSoFar, Cond.selects RX3 yX3_askingsSoFar yX3_askingsSoFar, Cond.code yX3_askingsSoFar cX3_askingsSoFar 3 (some .int), Cond.methodLink RL 85 yX4_share, Cond.instanceMethod yX4_share, Cond.selects RX4 yX4_share yX4_share, Cond.code yX4_share cX4_share 2 (some .int), Cond.methodLink RL 86 yX3_count, Cond.instanceMethod yX3_count, Cond.selects RX3 yX3_count yX3_count, Cond.code yX3_count cX3_count 2 (some .int), Cond.methodLink RX3 161 yX3_callsThatAre, Cond.instanceMethod yX3_callsThatAre, Cond.selects RX3 yX3_callsThatAre yX3_callsThatAre, Cond.code yX3_callsThatAre cX3_callsThatAre 4 (some .int), Cond.methodLink RX3 170 yX3_openAskings, Cond.instanceMethod yX3_openAskings, Cond.selects RX3 yX3_openAskings yX3_openAskings, Cond.code yX3_openAskings cX3_openAskings 3 (some .int), Cond.methodLink RL 89 yX4_count, Cond.instanceMethod yX4_count, Cond.selects RX4 yX4_count yX4_count, Cond.code yX4_count cX4_count 4 (some .int)]
def wsL_law_r30 : List Cond := [Cond.methodLink RX4 235 yX4_inState, Cond.instanceMethod yX4_inState, Cond.selects RX4 yX4_inState yX4_inState, Cond.code yX4_inState cX4_inState 4 (some .int)]
def wsL_law : List Cond := (wsL_law_r1 ++ (wsL_law_r2 ++ (wsL_law_r3 ++ (wsL_law_r4 ++ (wsL_law_r5 ++ (wsL_law_r6 ++ (wsL_law_r7 ++ (wsL_law_r8 ++ (wsL_law_r9 ++ (wsL_law_r10 ++ (wsL_law_r11 ++ (wsL_law_r12 ++ (wsL_law_r13 ++ (wsL_law_r14 ++ (wsL_law_r15 ++ (wsL_law_r16 ++ (wsL_law_r17 ++ (wsL_law_r18 ++ (wsL_law_r19 ++ (wsL_law_r20 ++ (wsL_law_r21 ++ (wsL_law_r22 ++ (wsL_law_r23 ++ (wsL_law_r24 ++ (wsL_law_r25 ++ (wsL_law_r26 ++ (wsL_law_r27 ++ (wsL_law_r28 ++ (wsL_law_r29 ++ wsL_law_r30))))))))))))))))))))))))))))) ++ wsX30 ++ wsX40 ++ wsJx4a65c0 ++ wsX20 ++ wsX10 ++ wsX00 ++ ([] : List Cond)
end
section
theorem pz_pl {big : List Cond} (ws : List Cond) (ps : List Nat) (hp : ws = ps.filterMap (fun i => big[i]?)) : ∀ w ∈ ws, w ∈ big := by
  intro w hw
  rw [hp] at hw
  obtain ⟨i, -, hi⟩ := List.mem_filterMap.mp hw
  exact List.mem_of_getElem? hi
theorem pz_ap {big a b : List Cond} (ha : ∀ w ∈ a, w ∈ big) (hb : ∀ w ∈ b, w ∈ big) : ∀ w ∈ a ++ b, w ∈ big := fun w h => (List.mem_append.mp h).elim (ha w) (hb w)
set_option maxRecDepth 20000 in
theorem in_wsL_law_r1 : ∀ w ∈ wsL_law_r1, w ∈ lw_tbl := pz_pl _ [71, 72, 57, 640, 641, 61, 73, 74, 75, 76, 77, 78, 79, 80, 60, 105, 106, 107, 108, 145, 109, 111, 112, 113] (by decide +kernel)
set_option maxRecDepth 20000 in
theorem in_wsL_law_r2 : ∀ w ∈ wsL_law_r2, w ∈ lw_tbl := pz_pl _ [81, 82, 83, 91, 93, 84, 85, 59, 86, 95, 87, 88, 58, 89, 90, 642, 643, 644, 645, 646, 651, 652, 657, 658] (by decide +kernel)
set_option maxRecDepth 20000 in
theorem in_wsL_law_r3 : ∀ w ∈ wsL_law_r3, w ∈ lw_tbl := pz_pl _ [659, 660, 661, 662, 663, 664, 665, 666, 667, 668, 669, 670, 671, 672, 673, 674, 675, 676, 677, 678, 679, 680, 681, 776] (by decide +kernel)
set_option maxRecDepth 20000 in
theorem in_wsL_law_r4 : ∀ w ∈ wsL_law_r4, w ∈ lw_tbl := pz_pl _ [682, 683, 684, 685, 686, 687, 146, 147, 148, 149, 158, 159, 62, 165, 150, 152, 0, 153, 154, 155, 156, 157, 94, 160] (by decide +kernel)
set_option maxRecDepth 20000 in
theorem in_wsL_law_r5 : ∀ w ∈ wsL_law_r5, w ∈ lw_tbl := pz_pl _ [161, 162, 163, 164, 169, 167, 171, 172, 173, 175, 189, 229, 230, 231, 232, 96, 97, 233, 235, 1, 236, 237, 239, 2] (by decide +kernel)
set_option maxRecDepth 20000 in
theorem in_wsL_law_r6 : ∀ w ∈ wsL_law_r6, w ∈ lw_tbl := pz_pl _ [240, 241, 243, 3, 244, 280, 249, 64, 250, 281, 245, 246, 63, 247, 248, 251, 252, 253, 254, 255, 256, 65, 257, 258] (by decide +kernel)
set_option maxRecDepth 20000 in
theorem in_wsL_law_r7 : ∀ w ∈ wsL_law_r7, w ∈ lw_tbl := pz_pl _ [960, 259, 267, 268, 269, 270, 271, 273, 274, 275, 276, 277, 279, 278, 66, 777, 778, 779, 780, 648, 781, 782, 783, 784] (by decide +kernel)
set_option maxRecDepth 20000 in
theorem in_wsL_law_r8 : ∀ w ∈ wsL_law_r8, w ∈ lw_tbl := pz_pl _ [786, 33, 787, 282, 283, 284, 285, 176, 286, 288, 4, 289, 158, 290, 291, 292, 293, 294, 295, 67, 296, 297, 298, 68] (by decide +kernel)
set_option maxRecDepth 20000 in
theorem in_wsL_law_r9 : ∀ w ∈ wsL_law_r9, w ∈ lw_tbl := pz_pl _ [299, 300, 301, 302, 303, 304, 305, 306, 307, 308, 309, 310, 311, 312, 313, 314, 315, 316, 174, 317, 318, 319, 320, 177] (by decide +kernel)
set_option maxRecDepth 20000 in
theorem in_wsL_law_r10 : ∀ w ∈ wsL_law_r10, w ∈ lw_tbl := pz_pl _ [180, 182, 183, 186, 187, 191, 192, 321, 788, 789, 790, 791, 792, 794, 34, 795, 796, 797, 798, 799, 800, 322, 323, 324] (by decide +kernel)
set_option maxRecDepth 20000 in
theorem in_wsL_law_r11 : ∀ w ∈ wsL_law_r11, w ∈ lw_tbl := pz_pl _ [325, 178, 801, 802, 803, 804, 326, 327, 328, 329, 185, 190, 805, 806, 807, 808, 330, 331, 332, 333, 809, 810, 811, 812] (by decide +kernel)
set_option maxRecDepth 20000 in
theorem in_wsL_law_r12 : ∀ w ∈ wsL_law_r12, w ∈ lw_tbl := pz_pl _ [650, 334, 335, 336, 337, 813, 814, 815, 816, 338, 339, 340, 341, 817, 818, 819, 820, 342, 343, 344, 345, 114, 821, 822] (by decide +kernel)
set_option maxRecDepth 20000 in
theorem in_wsL_law_r13 : ∀ w ∈ wsL_law_r13, w ∈ lw_tbl := pz_pl _ [823, 824, 653, 346, 347, 348, 349, 350, 351, 352, 69, 110, 358, 353, 354, 355, 356, 357, 359, 361, 362, 363, 365, 367] (by decide +kernel)
set_option maxRecDepth 20000 in
theorem in_wsL_law_r14 : ∀ w ∈ wsL_law_r14, w ∈ lw_tbl := pz_pl _ [371, 373, 404, 406, 5, 407, 360, 370, 408, 410, 6, 411, 412, 414, 7, 415, 193, 170, 416, 417, 418, 419, 420, 422] (by decide +kernel)
set_option maxRecDepth 20000 in
theorem in_wsL_law_r15 : ∀ w ∈ wsL_law_r15, w ∈ lw_tbl := pz_pl _ [8, 423, 424, 425, 426, 427, 428, 429, 435, 430, 431, 432, 433, 434, 436, 438, 9, 439, 168, 440, 442, 10, 443, 444] (by decide +kernel)
set_option maxRecDepth 20000 in
theorem in_wsL_law_r16 : ∀ w ∈ wsL_law_r16, w ∈ lw_tbl := pz_pl _ [445, 446, 447, 448, 449, 70, 450, 451, 452, 453, 454, 457, 459, 461, 472, 473, 474, 475, 375, 377, 369, 455, 166, 476] (by decide +kernel)
set_option maxRecDepth 20000 in
theorem in_wsL_law_r17 : ∀ w ∈ wsL_law_r17, w ∈ lw_tbl := pz_pl _ [478, 11, 479, 368, 351, 480, 481, 482, 483, 484, 485, 486, 487, 492, 488, 490, 12, 491, 825, 826, 827, 828, 829, 649] (by decide +kernel)
set_option maxRecDepth 20000 in
theorem in_wsL_law_r18 : ∀ w ∈ wsL_law_r18, w ∈ lw_tbl := pz_pl _ [647, 830, 832, 35, 833, 834, 836, 36, 837, 838, 840, 37, 841, 842, 844, 38, 845, 846, 848, 39, 849, 850, 852, 40] (by decide +kernel)
set_option maxRecDepth 20000 in
theorem in_wsL_law_r19 : ∀ w ∈ wsL_law_r19, w ∈ lw_tbl := pz_pl _ [853, 854, 855, 856, 857, 858, 860, 41, 861, 862, 864, 42, 865, 654, 866, 493, 494, 495, 496, 497, 499, 13, 500, 501] (by decide +kernel)
set_option maxRecDepth 20000 in
theorem in_wsL_law_r20 : ∀ w ∈ wsL_law_r20, w ∈ lw_tbl := pz_pl _ [502, 503, 504, 505, 507, 14, 508, 509, 510, 511, 512, 513, 515, 15, 516, 517, 518, 519, 520, 521, 522, 523, 524, 179] (by decide +kernel)
set_option maxRecDepth 20000 in
theorem in_wsL_law_r21 : ∀ w ∈ wsL_law_r21, w ∈ lw_tbl := pz_pl _ [525, 527, 16, 528, 372, 117, 529, 531, 17, 532, 867, 868, 869, 870, 871, 873, 43, 874, 875, 877, 44, 878, 879, 881] (by decide +kernel)
set_option maxRecDepth 20000 in
theorem in_wsL_law_r22 : ∀ w ∈ wsL_law_r22, w ∈ lw_tbl := pz_pl _ [45, 882, 533, 534, 535, 536, 537, 539, 18, 540, 541, 543, 19, 544, 376, 378, 460, 545, 547, 20, 548, 462, 456, 374] (by decide +kernel)
set_option maxRecDepth 20000 in
theorem in_wsL_law_r23 : ∀ w ∈ wsL_law_r23, w ∈ lw_tbl := pz_pl _ [366, 364, 115, 549, 550, 551, 552, 553, 554, 556, 21, 557, 184, 558, 560, 22, 561, 562, 563, 564, 565, 566, 568, 23] (by decide +kernel)
set_option maxRecDepth 20000 in
theorem in_wsL_law_r24 : ∀ w ∈ wsL_law_r24, w ∈ lw_tbl := pz_pl _ [569, 570, 572, 24, 573, 574, 576, 25, 577, 578, 580, 26, 581, 188, 582, 584, 27, 585, 458, 116, 586, 588, 28, 589] (by decide +kernel)
set_option maxRecDepth 20000 in
theorem in_wsL_law_r25 : ∀ w ∈ wsL_law_r25, w ∈ lw_tbl := pz_pl _ [590, 592, 29, 593, 883, 884, 885, 886, 887, 889, 46, 890, 688, 891, 893, 47, 894, 655, 895, 897, 48, 898, 899, 901] (by decide +kernel)
set_option maxRecDepth 20000 in
theorem in_wsL_law_r26 : ∀ w ∈ wsL_law_r26, w ∈ lw_tbl := pz_pl _ [49, 902, 907, 903, 905, 50, 906, 908, 910, 51, 911, 912, 914, 52, 915, 656, 916, 918, 53, 919, 920, 922, 54, 923] (by decide +kernel)
set_option maxRecDepth 20000 in
theorem in_wsL_law_r27 : ∀ w ∈ wsL_law_r27, w ∈ lw_tbl := pz_pl _ [594, 595, 596, 597, 924, 925, 926, 927, 598, 599, 600, 601, 602, 603, 604, 605, 928, 929, 930, 931, 606, 607, 608, 609] (by decide +kernel)
set_option maxRecDepth 20000 in
theorem in_wsL_law_r28 : ∀ w ∈ wsL_law_r28, w ∈ lw_tbl := pz_pl _ [610, 932, 611, 612, 613, 614, 615, 933, 934, 935, 936, 616, 617, 618, 619, 937, 938, 939, 940, 620, 621, 622, 623, 181] (by decide +kernel)
set_option maxRecDepth 20000 in
theorem in_wsL_law_r29 : ∀ w ∈ wsL_law_r29, w ∈ lw_tbl := pz_pl _ [624, 626, 30, 627, 941, 942, 943, 944, 628, 629, 630, 631, 632, 634, 31, 635, 636, 638, 32, 639, 945, 946, 947, 948] (by decide +kernel)
set_option maxRecDepth 20000 in
theorem in_wsL_law_r30 : ∀ w ∈ wsL_law_r30, w ∈ lw_tbl := pz_pl _ [949, 951, 55, 952] (by decide +kernel)
set_option maxRecDepth 20000 in
theorem in_wsX30 : ∀ w ∈ wsX30, w ∈ lw_tbl := pz_pl _ [118, 120, 122, 124, 126, 128, 130, 132, 134, 136, 138, 140, 142] (by decide +kernel)
set_option maxRecDepth 20000 in
theorem in_wsX40 : ∀ w ∈ wsX40, w ∈ lw_tbl := pz_pl _ [689, 691, 693, 695, 697, 699, 701, 703, 705, 707, 709, 711, 713, 715, 717, 719, 721, 723, 725, 727, 729, 731, 733, 735, 737, 739, 741, 743, 745, 747, 749, 751, 753, 755, 757, 759, 761, 763, 765, 767, 769, 771, 773] (by decide +kernel)
set_option maxRecDepth 20000 in
theorem in_wsJx4a65c0 : ∀ w ∈ wsJx4a65c0, w ∈ lw_tbl := pz_pl _ [102, 98, 100] (by decide +kernel)
set_option maxRecDepth 20000 in
theorem in_wsX20 : ∀ w ∈ wsX20, w ∈ lw_tbl := pz_pl _ [194, 196, 198, 200, 202, 204, 206, 208, 210, 212, 214, 216, 218, 220, 222, 224, 226] (by decide +kernel)
set_option maxRecDepth 20000 in
theorem in_wsX10 : ∀ w ∈ wsX10, w ∈ lw_tbl := pz_pl _ [379, 381, 383, 385, 387, 389, 391, 393, 395, 397, 399, 401] (by decide +kernel)
set_option maxRecDepth 20000 in
theorem in_wsX00 : ∀ w ∈ wsX00, w ∈ lw_tbl := pz_pl _ [463, 465, 467, 469] (by decide +kernel)
theorem in_nil9 : ∀ w ∈ ([] : List Cond), w ∈ lw_tbl := fun w h => absurd h List.not_mem_nil
theorem wsL_law_in : ∀ w ∈ wsL_law, w ∈ lw_tbl := pz_ap (pz_ap (pz_ap (pz_ap (pz_ap (pz_ap (pz_ap (pz_ap (in_wsL_law_r1) (pz_ap (in_wsL_law_r2) (pz_ap (in_wsL_law_r3) (pz_ap (in_wsL_law_r4) (pz_ap (in_wsL_law_r5) (pz_ap (in_wsL_law_r6) (pz_ap (in_wsL_law_r7) (pz_ap (in_wsL_law_r8) (pz_ap (in_wsL_law_r9) (pz_ap (in_wsL_law_r10) (pz_ap (in_wsL_law_r11) (pz_ap (in_wsL_law_r12) (pz_ap (in_wsL_law_r13) (pz_ap (in_wsL_law_r14) (pz_ap (in_wsL_law_r15) (pz_ap (in_wsL_law_r16) (pz_ap (in_wsL_law_r17) (pz_ap (in_wsL_law_r18) (pz_ap (in_wsL_law_r19) (pz_ap (in_wsL_law_r20) (pz_ap (in_wsL_law_r21) (pz_ap (in_wsL_law_r22) (pz_ap (in_wsL_law_r23) (pz_ap (in_wsL_law_r24) (pz_ap (in_wsL_law_r25) (pz_ap (in_wsL_law_r26) (pz_ap (in_wsL_law_r27) (pz_ap (in_wsL_law_r28) (pz_ap (in_wsL_law_r29) (in_wsL_law_r30)))))))))))))))))))))))))))))) (in_wsX30)) (in_wsX40)) (in_wsJx4a65c0)) (in_wsX20)) (in_wsX10)) (in_wsX00)) (in_nil9)
theorem inlX0 : ∀ w ∈ wsX00, w ∈ wsL_law := fun _ h => List.mem_append_left _ (List.mem_append_right _ h)
theorem inX0 : ∀ w ∈ wsX00, w ∈ lw_tbl := fun w h => wsL_law_in w (inlX0 w h)
theorem inlX1 : ∀ w ∈ wsX10, w ∈ wsL_law := fun _ h => List.mem_append_left _ (List.mem_append_left _ (List.mem_append_right _ h))
theorem inX1 : ∀ w ∈ wsX10, w ∈ lw_tbl := fun w h => wsL_law_in w (inlX1 w h)
theorem inlX2 : ∀ w ∈ wsX20, w ∈ wsL_law := fun _ h => List.mem_append_left _ (List.mem_append_left _ (List.mem_append_left _ (List.mem_append_right _ h)))
theorem inX2 : ∀ w ∈ wsX20, w ∈ lw_tbl := fun w h => wsL_law_in w (inlX2 w h)
theorem inlX3 : ∀ w ∈ wsX30, w ∈ wsL_law := fun _ h => List.mem_append_left _ (List.mem_append_left _ (List.mem_append_left _ (List.mem_append_left _ (List.mem_append_left _ (List.mem_append_left _ (List.mem_append_right _ h))))))
theorem inX3 : ∀ w ∈ wsX30, w ∈ lw_tbl := fun w h => wsL_law_in w (inlX3 w h)
theorem inlX4 : ∀ w ∈ wsX40, w ∈ wsL_law := fun _ h => List.mem_append_left _ (List.mem_append_left _ (List.mem_append_left _ (List.mem_append_left _ (List.mem_append_left _ (List.mem_append_right _ h)))))
theorem inX4 : ∀ w ∈ wsX40, w ∈ lw_tbl := fun w h => wsL_law_in w (inlX4 w h)
theorem inJx145de : ∀ w ∈ wsJx145de0, w ∈ lw_tbl := by decide +kernel
theorem inJx8e188 : ∀ w ∈ wsJx8e1880, w ∈ lw_tbl := by decide +kernel
theorem inJxab1ab : ∀ w ∈ wsJxab1ab0, w ∈ lw_tbl := by decide +kernel
theorem inJ9 : ∀ w ∈ wsJ90, w ∈ lw_tbl := by decide +kernel
theorem inJ10 : ∀ w ∈ wsJ100, w ∈ lw_tbl := by decide +kernel
theorem inJxa1e45 : ∀ w ∈ wsJxa1e450, w ∈ lw_tbl := by decide +kernel
theorem inJxc12de : ∀ w ∈ wsJxc12de0, w ∈ lw_tbl := by decide +kernel
theorem inlJx4a65c : ∀ w ∈ wsJx4a65c0, w ∈ wsL_law := fun _ h => List.mem_append_left _ (List.mem_append_left _ (List.mem_append_left _ (List.mem_append_left _ (List.mem_append_right _ h))))
theorem inJx4a65c : ∀ w ∈ wsJx4a65c0, w ∈ lw_tbl := fun w h => wsL_law_in w (inlJx4a65c w h)
theorem inJ7 : ∀ w ∈ wsJ70, w ∈ lw_tbl := by decide +kernel
theorem inJx5ef63 : ∀ w ∈ wsJx5ef630, w ∈ lw_tbl := by decide +kernel
theorem inJxbd725 : ∀ w ∈ wsJxbd7250, w ∈ lw_tbl := by decide +kernel
theorem inJ15 : ∀ w ∈ wsJ150, w ∈ lw_tbl := by decide +kernel
theorem inJxf0a74 : ∀ w ∈ wsJxf0a740, w ∈ lw_tbl := by decide +kernel
theorem inJxa66e6 : ∀ w ∈ wsJxa66e60, w ∈ lw_tbl := by decide +kernel
theorem inJ8 : ∀ w ∈ wsJ80, w ∈ lw_tbl := by decide +kernel
theorem inJ3 : ∀ w ∈ wsJ30, w ∈ lw_tbl := by decide +kernel
abbrev vwCl : List vw_C := [(RJx4a65c, TJx4a65c, 3), (RX0, TX0, 4), (RX1, TX1, 12), (RX2, TX2, 17), (RX3, TX3, 13), (RX4, TX4, 43)]
end
section
/-! plain facts -/
theorem pz_lt {x y : Int32} (h : x < y) : x.toInt < y.toInt := Int32.lt_iff_toInt_lt.mp h
theorem pz_nlt {x y : Int32} (h : ¬ x < y) : y.toInt ≤ x.toInt := Int.not_lt.mp (fun q => h (Int32.lt_iff_toInt_lt.mpr q))
theorem pz_le {x y : Int32} (h : x ≤ y) : x.toInt ≤ y.toInt := Int32.le_iff_toInt_le.mp h
theorem pz_nle {x y : Int32} (h : ¬ x ≤ y) : y.toInt < x.toInt := Int.not_le.mp (fun q => h (Int32.le_iff_toInt_le.mpr q))
theorem pz_ge {x y : Int32} (h : y ≤ x) : y.toInt ≤ x.toInt := pz_le h
theorem pz_nge {x y : Int32} (h : ¬ y ≤ x) : x.toInt < y.toInt := pz_nle h
theorem pz_gt {x y : Int32} (h : y < x) : y.toInt < x.toInt := pz_lt h
theorem pz_ngt {x y : Int32} (h : ¬ y < x) : x.toInt ≤ y.toInt := pz_nlt h
theorem pz_eq {x y : Int32} (h : x = y) : x.toInt = y.toInt := congrArg Int32.toInt h
theorem pz_neq {x y : Int32} (h : ¬ x = y) : ¬ x.toInt = y.toInt := fun q => h (Int32.toInt_inj.mp q)
theorem pz_nne {x y : Int32} (h : ¬ ¬ x = y) : x.toInt = y.toInt := congrArg Int32.toInt (Classical.not_not.mp h)
theorem pz_id {a : Prop} (h : a) : a := h
theorem pz_case {x : Int32} {n : Nat} (h : ¬ (x.toInt < 0 ∨ (n : Int) < x.toInt)) (hn : n < 2 ^ 31) : ∃ j : Nat, j ≤ n ∧ x = nI j := by
  have h0 : ¬ x < 0 := fun q => h (Or.inl (pz_lt q))
  obtain ⟨j, hj, e⟩ := nI_of h0
  refine ⟨j, ?_, e⟩
  have e2 : x.toInt = (j : Int) := by rw [e]; exact nI_toInt hj
  omega
theorem pz_nI {x : Int32} {n : Nat} (h : 0 ≤ x.toInt) (h2 : x.toInt ≤ (n : Int)) (hn : n < 2 ^ 31 := by decide) : ∃ N : Nat, N ≤ n ∧ x = nI N := pz_case (fun q => by omega) hn
theorem pz_cases18 {x : Int32} (h : ¬ (x.toInt < 0 ∨ 17 < x.toInt)) : x = 0 ∨ x = 1 ∨ x = 2 ∨ x = 3 ∨ x = 4 ∨ x = 5 ∨ x = 6 ∨ x = 7 ∨ x = 8 ∨ x = 9 ∨ x = 10 ∨ x = 11 ∨ x = 12 ∨ x = 13 ∨ x = 14 ∨ x = 15 ∨ x = 16 ∨ x = 17 := by
  obtain ⟨j, hj, e⟩ := pz_case (n := 17) h (by decide)
  subst e
  have hh : ∀ j : Nat, j < 18 → (nI j = 0 ∨ nI j = 1 ∨ nI j = 2 ∨ nI j = 3 ∨ nI j = 4 ∨ nI j = 5 ∨ nI j = 6 ∨ nI j = 7 ∨ nI j = 8 ∨ nI j = 9 ∨ nI j = 10 ∨ nI j = 11 ∨ nI j = 12 ∨ nI j = 13 ∨ nI j = 14 ∨ nI j = 15 ∨ nI j = 16 ∨ nI j = 17) := by decide +kernel
  exact hh j (by omega)
theorem pz_in10 {x y : Int32} (e : y = x - 10) (h1 : 11 ≤ x.toInt) (h2 : x.toInt ≤ 16) : vp_in y 7 := by
  have h0 : ¬ x < 0 := fun q => by have := pz_lt q; have h9 : (0 : Int32).toInt = 0 := by decide
                                   omega
  obtain ⟨j, hj, ej⟩ := nI_of h0
  have e2 : x.toInt = (j : Int) := by rw [ej]; exact nI_toInt hj
  have e3 : y = nI (j - 10) := by rw [e, ej]; exact pk_sub (a := j) (b := 10) (by omega)
  rw [e3]
  exact vp_in_nI (by omega) (by decide)
/-! the world at a method's beginning -/
def pzPre (D : va_G) (cl : List vw_C) (W : va_W) (tys : List (ClassId × FieldType)) (sz : Nat) (U : State) : Prop := U.heap.size = sz ∧ va_P D cl W U.heap ∧ va_K D cl tys U ∧ va_D (fun _ => True) W
/-- the empty row of ArrayList, and what the rows of objects need -/
def pzS (z : Nat) (A : Nat → Prop) (U : State) (H : Heap) : Prop := va_Z "java/util/ArrayList" "DEFAULTCAPACITY_EMPTY_ELEMENTDATA" "[Ljava/lang/Object;" (.ref z) A U H ∧ va_T (.object "java/lang/Object") z 0 (fun _ => .null) A U H ∧ va_AO "java/lang/Object" U ∧ va_Nw (.castable "FrontDoor$Server" "java/lang/Object") U ∧ va_Nw (.castable "FrontDoor$Call" "java/lang/Object") U
/-- an object that is put into a row -/
def pzE (q : Nat) (A : Nat → Prop) (U : State) (H : Heap) : Prop := ∃ C : String, va_Nw (.castable C "java/lang/Object") U ∧ (∃ cell : Cell, H[q]? = some cell ∧ cell.vm.isStatics = false ∧ U.vm.findClass C = some cell.cls) ∧ ¬ A q
def pzPreZ (D : va_G) (cl : List vw_C) (W : va_W) (tys : List (ClassId × FieldType)) (sz z : Nat) (U : State) : Prop := pzPre D cl W tys sz U ∧ pzS z (va_A W sz) U U.heap
def pzPreE (D : va_G) (cl : List vw_C) (W : va_W) (tys : List (ClassId × FieldType)) (sz z q : Nat) (U : State) : Prop := pzPre D cl W tys sz U ∧ pzS z (va_A W sz) U U.heap ∧ pzE q (va_A W sz) U U.heap
theorem pz_blind {av : List Value} {D : va_G} {cl : List vw_C} {W : va_W} {tys : List (ClassId × FieldType)} {sz : Nat} : FrameBlind (va_Pc av (pzPre D cl W tys sz)) := fun a U g mk q => by
  obtain ⟨q0, q1, qP, qK, qD⟩ := q
  exact ⟨q0, q1, qP, va_K.moved (u := U) (U := U.calling g mk a) (Vm.Alike.refl U.vm) qK, qD⟩
theorem pz_Ssame {z : Nat} {A : Nat → Prop} {u U : State} (hvm : u.vm = U.vm) {H : Heap} (h : pzS z A u H) : pzS z A U H := by
  have ha : u.vm.Alike U.vm := by rw [hvm]; exact Vm.Alike.refl _
  exact ⟨h.1.moved ha, h.2.1.moved ha, h.2.2.1.moved ha, va_Nw.same rfl hvm h.2.2.2.1, va_Nw.same rfl hvm h.2.2.2.2⟩
theorem pz_Esame {q : Nat} {A : Nat → Prop} {u U : State} (hvm : u.vm = U.vm) {H : Heap} (h : pzE q A u H) : pzE q A U H := by
  obtain ⟨C, h1, h2, h3⟩ := h
  exact ⟨C, va_Nw.same rfl hvm h1, by rw [← hvm]; exact h2, h3⟩
theorem pz_blindZ {av : List Value} {D : va_G} {cl : List vw_C} {W : va_W} {tys : List (ClassId × FieldType)} {sz z : Nat} : FrameBlind (va_Pc av (pzPreZ D cl W tys sz z)) := fun a U g mk q => by
  obtain ⟨q0, ⟨q1, qP, qK, qD⟩, qZ⟩ := q
  exact ⟨q0, ⟨q1, qP, va_K.moved (u := U) (U := U.calling g mk a) (Vm.Alike.refl U.vm) qK, qD⟩, pz_Ssame (u := U) (U := U.calling g mk a) rfl qZ⟩
theorem pz_blindE {av : List Value} {D : va_G} {cl : List vw_C} {W : va_W} {tys : List (ClassId × FieldType)} {sz z x : Nat} : FrameBlind (va_Pc av (pzPreE D cl W tys sz z x)) := fun a U g mk q => by
  obtain ⟨q0, ⟨q1, qP, qK, qD⟩, qZ, qE⟩ := q
  exact ⟨q0, ⟨q1, qP, va_K.moved (u := U) (U := U.calling g mk a) (Vm.Alike.refl U.vm) qK, qD⟩, pz_Ssame (u := U) (U := U.calling g mk a) rfl qZ, pz_Esame (u := U) (U := U.calling g mk a) rfl qE⟩
theorem pz_at {D : va_G} {cl : List vw_C} {W : va_W} {tys : List (ClassId × FieldType)} {H : Heap} {B : Nat → Prop} {s U : State} (hP : va_P D cl W H) (hK : va_K D cl tys s) (hD : va_D B W) (hU : U.heap = H) (hW : s.WarmedH U.vm) : pzPre D cl W tys H.size U := ⟨by rw [hU], by rw [hU]; exact hP, va_K.moved hW.alike hK, hD.weaken (fun _ _ _ _ => trivial)⟩
theorem pz_f {A0 : Nat → Prop} {H0 H : Heap} {locs : List Loc} (hA : ∀ q : Nat, H0.size ≤ q → A0 q) (hS : va_S A0 H0 H locs) : ∀ q, va_A [] H.size q → A0 q := by
  intro q h
  rcases h with ⟨k, e, h⟩ | h
  · simp at h
  · exact hA q (Nat.le_trans hS.1 h)
theorem pz_keep {D : va_G} {cl : List vw_C} {W : va_W} {H H1 : Heap} (hP : va_P D cl W H) (hk : ∀ q : Nat, q < H.size → ¬ va_A [] H.size q → H1[q]? = H[q]?) : va_P D cl W H1 := by
  refine hP.kept (fun k q h => ?_)
  have hl := (hP k q h).lt
  refine hk q.1 hl (fun h9 => ?_)
  rcases h9 with ⟨k, e, h⟩ | h
  · simp at h
  · exact absurd h (Nat.not_le.mpr hl)
theorem pz_nilP {D : va_G} {cl : List vw_C} {H : Heap} : va_P D cl [] H := fun k q h => by simp at h
theorem pz_nilD {A : Nat → Prop} : va_D A [] := ⟨fun i j p q h => by simp at h, fun k q h => by simp at h⟩
theorem pz_Zat {z : Nat} {A : Nat → Prop} {s U : State} {H : Heap} {locs : List Loc} {W : va_W} (hZ : pzS z A s s.heap) (hS : va_S A s.heap H locs) (hF : ∀ q, va_A W H.size q → A q) (hU : U.heap = H) (hW : s.WarmedH U.vm) : pzS z (va_A W H.size) U U.heap := by
  rw [hU]
  exact ⟨((hZ.1.kept hS.2.1).narrow hF).moved hW.alike, ((hZ.2.1.kept hS.2.1).narrow hF).moved hW.alike, hZ.2.2.1.moved hW.alike, va_Nw.warmC hW hZ.2.2.2.1, va_Nw.warmC hW hZ.2.2.2.2⟩
theorem pz_Ekept {q : Nat} {A : Nat → Prop} {s : State} {H : Heap} {locs : List Loc} (hE : pzE q A s s.heap) (hS : va_S A s.heap H locs) : pzE q A s H := by
  obtain ⟨C, h1, ⟨cell, h2, h3⟩, h4⟩ := hE
  have hl : q < s.heap.size := (Array.getElem?_eq_some_iff.mp h2).1
  exact ⟨C, h1, ⟨cell, by rw [hS.2.1 q hl h4]; exact h2, h3⟩, h4⟩
theorem pz_Eat {q : Nat} {A : Nat → Prop} {s U : State} {H : Heap} {locs : List Loc} {W : va_W} (hE : pzE q A s s.heap) (hS : va_S A s.heap H locs) (hF : ∀ q, va_A W H.size q → A q) (hU : U.heap = H) (hW : s.WarmedH U.vm) : pzE q (va_A W H.size) U U.heap := by
  obtain ⟨C, h1, ⟨cell, h2, h3, h5⟩, h4⟩ := pz_Ekept hE hS
  rw [hU]
  exact ⟨C, va_Nw.warmC hW h1, ⟨cell, h2, h3, by rw [hW.alike.findClass]; exact h5⟩, fun h => h4 (hF q h)⟩
theorem pzE.at {q : Nat} {A : Nat → Prop} {s : State} {H : Heap} {locs : List Loc} (hE : pzE q A s s.heap) (hS : va_S A s.heap H locs) : va_Any "java/lang/Object" s H q := by
  obtain ⟨C, h1, ⟨cell, h2, h3, h5⟩, h4⟩ := pz_Ekept hE hS
  obtain ⟨kC, hkC, -⟩ := Vm.findClass_spec h5
  exact ⟨cell, h2, h3, ⟨kC, hkC⟩, fun comp h => vb_asgC h1 comp _ h h5⟩
theorem pz_rAny {D : va_G} {cl : List vw_C} {W : va_W} {tys : List (ClassId × FieldType)} {H : Heap} {s : State} {a q0 ci : Nat} {fs : List Value} {r : vw_C} (hK : va_K D cl tys s) (hP : va_P D cl W H) (he : W[q0]? = some (a, .inr (ci, fs))) (hc : cl[ci]? = some r) (hca : va_Nw (.castable r.1 "java/lang/Object") s) : pzE a (fun _ => False) s H := by
  obtain ⟨cell, h1, h2, h3⟩ := va_recv hK hP hc he
  exact ⟨r.1, hca, ⟨cell, h1, h2, h3⟩, fun h => h⟩
theorem pz_notA {D : va_G} {cl : List vw_C} {W wc : va_W} {B : Nat → Prop} {H : Heap} {a : Nat} {x : va_E} (hP : va_P D cl W H) (hD : va_D B W) (q0 : Nat) (is : List Nat) (he : W[q0]? = some (a, x)) (hC : is.map (fun i => W[i]?) = wc.map some) (hn : q0 ∉ is) : ¬ va_A wc H.size a := by
  rintro (⟨k, e, h⟩ | h)
  · have hk : k < wc.length := by
      rcases Nat.lt_or_ge k wc.length with q | q
      · exact q
      · rw [List.getElem?_eq_none q] at h; cases h
    have hl : is.length = wc.length := by have := congrArg List.length hC; simpa using this
    have h1 : (wc.map some)[k]? = some (some (a, e)) := by rw [List.getElem?_map, h]; rfl
    rw [← hC, List.getElem?_map] at h1
    cases hi : is[k]? with
    | none => rw [hi] at h1; cases h1
    | some i =>
      rw [hi] at h1
      have h2 : W[i]? = some (a, e) := by simpa using h1
      have h3 := hD.1 i q0 _ _ h2 he rfl
      exact hn (h3 ▸ List.mem_of_getElem? hi)
  · exact absurd h (Nat.not_le.mpr (hP q0 _ he).lt)
theorem pz_Enew {q : Nat} {W : va_W} {s U : State} {H : Heap} (hE : pzE q (fun _ => False) s H) (hn : ¬ va_A W H.size q) (hU : U.heap = H) (hW : s.WarmedH U.vm) : pzE q (va_A W H.size) U U.heap := by
  obtain ⟨C, h1, ⟨cell, h2, h3, h5⟩, -⟩ := hE
  rw [hU]
  exact ⟨C, va_Nw.warmC hW h1, ⟨cell, h2, h3, by rw [hW.alike.findClass]; exact h5⟩, hn⟩
end
section
theorem dX4_init_0 : decode cX4_init 0 = .ok (.aload_n 0, 1) := by decide +kernel
theorem dX4_init_1 : decode cX4_init 1 = .ok (.invokespecial 1, 3) := by decide +kernel
theorem dX4_init_4 : decode cX4_init 4 = .ok (.aload_n 0, 1) := by decide +kernel
theorem dX4_init_5 : decode cX4_init 5 = .ok (.bipush 7, 2) := by decide +kernel
theorem dX4_init_7 : decode cX4_init 7 = .ok (.newarray .int, 2) := by decide +kernel
theorem dX4_init_9 : decode cX4_init 9 = .ok (.putfield 7, 3) := by decide +kernel
theorem dX4_init_12 : decode cX4_init 12 = .ok (.aload_n 0, 1) := by decide +kernel
theorem dX4_init_13 : decode cX4_init 13 = .ok (.iconst 3, 1) := by decide +kernel
theorem dX4_init_14 : decode cX4_init 14 = .ok (.putfield 13, 3) := by decide +kernel
theorem dX4_init_17 : decode cX4_init 17 = .ok (.aload_n 0, 1) := by decide +kernel
theorem dX4_init_18 : decode cX4_init 18 = .ok (.bipush 20, 2) := by decide +kernel
theorem dX4_init_20 : decode cX4_init 20 = .ok (.putfield 17, 3) := by decide +kernel
theorem dX4_init_23 : decode cX4_init 23 = .ok (.aload_n 0, 1) := by decide +kernel
theorem dX4_init_24 : decode cX4_init 24 = .ok (.bipush 8, 2) := by decide +kernel
theorem dX4_init_26 : decode cX4_init 26 = .ok (.newarray .int, 2) := by decide +kernel
theorem dX4_init_28 : decode cX4_init 28 = .ok (.putfield 20, 3) := by decide +kernel
theorem dX4_init_31 : decode cX4_init 31 = .ok (.aload_n 0, 1) := by decide +kernel
theorem dX4_init_32 : decode cX4_init 32 = .ok (.bipush 8, 2) := by decide +kernel
theorem dX4_init_34 : decode cX4_init 34 = .ok (.newarray .int, 2) := by decide +kernel
theorem dX4_init_36 : decode cX4_init 36 = .ok (.putfield 23, 3) := by decide +kernel
theorem dX4_init_39 : decode cX4_init 39 = .ok (.aload_n 0, 1) := by decide +kernel
theorem dX4_init_40 : decode cX4_init 40 = .ok (.bipush 8, 2) := by decide +kernel
theorem dX4_init_42 : decode cX4_init 42 = .ok (.newarray .int, 2) := by decide +kernel
theorem dX4_init_44 : decode cX4_init 44 = .ok (.putfield 26, 3) := by decide +kernel
theorem dX4_init_47 : decode cX4_init 47 = .ok (.aload_n 0, 1) := by decide +kernel
theorem dX4_init_48 : decode cX4_init 48 = .ok (.bipush 8, 2) := by decide +kernel
theorem dX4_init_50 : decode cX4_init 50 = .ok (.newarray .int, 2) := by decide +kernel
theorem dX4_init_52 : decode cX4_init 52 = .ok (.putfield 29, 3) := by decide +kernel
theorem dX4_init_55 : decode cX4_init 55 = .ok (.aload_n 0, 1) := by decide +kernel
theorem dX4_init_56 : decode cX4_init 56 = .ok (.bipush 8, 2) := by decide +kernel
theorem dX4_init_58 : decode cX4_init 58 = .ok (.newarray .int, 2) := by decide +kernel
theorem dX4_init_60 : decode cX4_init 60 = .ok (.putfield 32, 3) := by decide +kernel
theorem dX4_init_63 : decode cX4_init 63 = .ok (.aload_n 0, 1) := by decide +kernel
theorem dX4_init_64 : decode cX4_init 64 = .ok (.bipush 8, 2) := by decide +kernel
theorem dX4_init_66 : decode cX4_init 66 = .ok (.newarray .int, 2) := by decide +kernel
theorem dX4_init_68 : decode cX4_init 68 = .ok (.putfield 35, 3) := by decide +kernel
theorem dX4_init_71 : decode cX4_init 71 = .ok (.aload_n 0, 1) := by decide +kernel
theorem dX4_init_72 : decode cX4_init 72 = .ok (.bipush 8, 2) := by decide +kernel
theorem dX4_init_74 : decode cX4_init 74 = .ok (.newarray .int, 2) := by decide +kernel
theorem dX4_init_76 : decode cX4_init 76 = .ok (.putfield 38, 3) := by decide +kernel
theorem dX4_init_79 : decode cX4_init 79 = .ok (.aload_n 0, 1) := by decide +kernel
theorem dX4_init_80 : decode cX4_init 80 = .ok (.bipush 8, 2) := by decide +kernel
theorem dX4_init_82 : decode cX4_init 82 = .ok (.newarray .int, 2) := by decide +kernel
theorem dX4_init_84 : decode cX4_init 84 = .ok (.putfield 41, 3) := by decide +kernel
theorem dX4_init_87 : decode cX4_init 87 = .ok (.aload_n 0, 1) := by decide +kernel
theorem dX4_init_88 : decode cX4_init 88 = .ok (.bipush 8, 2) := by decide +kernel
theorem dX4_init_90 : decode cX4_init 90 = .ok (.newarray .int, 2) := by decide +kernel
theorem dX4_init_92 : decode cX4_init 92 = .ok (.putfield 44, 3) := by decide +kernel
theorem dX4_init_95 : decode cX4_init 95 = .ok (.aload_n 0, 1) := by decide +kernel
theorem dX4_init_96 : decode cX4_init 96 = .ok (.bipush 8, 2) := by decide +kernel
theorem dX4_init_98 : decode cX4_init 98 = .ok (.newarray .int, 2) := by decide +kernel
theorem dX4_init_100 : decode cX4_init 100 = .ok (.putfield 47, 3) := by decide +kernel
theorem dX4_init_103 : decode cX4_init 103 = .ok (.aload_n 0, 1) := by decide +kernel
theorem dX4_init_104 : decode cX4_init 104 = .ok (.bipush 8, 2) := by decide +kernel
theorem dX4_init_106 : decode cX4_init 106 = .ok (.newarray .int, 2) := by decide +kernel
theorem dX4_init_108 : decode cX4_init 108 = .ok (.putfield 50, 3) := by decide +kernel
theorem dX4_init_111 : decode cX4_init 111 = .ok (.aload_n 0, 1) := by decide +kernel
theorem dX4_init_112 : decode cX4_init 112 = .ok (.bipush 8, 2) := by decide +kernel
theorem dX4_init_114 : decode cX4_init 114 = .ok (.newarray .int, 2) := by decide +kernel
theorem dX4_init_116 : decode cX4_init 116 = .ok (.putfield 53, 3) := by decide +kernel
theorem dX4_init_119 : decode cX4_init 119 = .ok (.aload_n 0, 1) := by decide +kernel
theorem dX4_init_120 : decode cX4_init 120 = .ok (.bipush 8, 2) := by decide +kernel
theorem dX4_init_122 : decode cX4_init 122 = .ok (.newarray .int, 2) := by decide +kernel
theorem dX4_init_124 : decode cX4_init 124 = .ok (.putfield 56, 3) := by decide +kernel
theorem dX4_init_127 : decode cX4_init 127 = .ok (.aload_n 0, 1) := by decide +kernel
theorem dX4_init_128 : decode cX4_init 128 = .ok (.bipush 8, 2) := by decide +kernel
theorem dX4_init_130 : decode cX4_init 130 = .ok (.newarray .int, 2) := by decide +kernel
theorem dX4_init_132 : decode cX4_init 132 = .ok (.putfield 59, 3) := by decide +kernel
theorem dX4_init_135 : decode cX4_init 135 = .ok (.aload_n 0, 1) := by decide +kernel
theorem dX4_init_136 : decode cX4_init 136 = .ok (.bipush 8, 2) := by decide +kernel
theorem dX4_init_138 : decode cX4_init 138 = .ok (.newarray .int, 2) := by decide +kernel
theorem dX4_init_140 : decode cX4_init 140 = .ok (.putfield 62, 3) := by decide +kernel
theorem dX4_init_143 : decode cX4_init 143 = .ok (.aload_n 0, 1) := by decide +kernel
theorem dX4_init_144 : decode cX4_init 144 = .ok (.bipush 8, 2) := by decide +kernel
theorem dX4_init_146 : decode cX4_init 146 = .ok (.newarray .int, 2) := by decide +kernel
theorem dX4_init_148 : decode cX4_init 148 = .ok (.putfield 65, 3) := by decide +kernel
theorem dX4_init_151 : decode cX4_init 151 = .ok (.aload_n 0, 1) := by decide +kernel
theorem dX4_init_152 : decode cX4_init 152 = .ok (.sipush 200, 3) := by decide +kernel
theorem dX4_init_155 : decode cX4_init 155 = .ok (.newarray .int, 2) := by decide +kernel
theorem dX4_init_157 : decode cX4_init 157 = .ok (.putfield 68, 3) := by decide +kernel
theorem dX4_init_160 : decode cX4_init 160 = .ok (.aload_n 0, 1) := by decide +kernel
theorem dX4_init_161 : decode cX4_init 161 = .ok (.sipush 200, 3) := by decide +kernel
theorem dX4_init_164 : decode cX4_init 164 = .ok (.newarray .int, 2) := by decide +kernel
theorem dX4_init_166 : decode cX4_init 166 = .ok (.putfield 71, 3) := by decide +kernel
theorem dX4_init_169 : decode cX4_init 169 = .ok (.aload_n 0, 1) := by decide +kernel
theorem dX4_init_170 : decode cX4_init 170 = .ok (.sipush 200, 3) := by decide +kernel
theorem dX4_init_173 : decode cX4_init 173 = .ok (.newarray .int, 2) := by decide +kernel
theorem dX4_init_175 : decode cX4_init 175 = .ok (.putfield 74, 3) := by decide +kernel
theorem dX4_init_178 : decode cX4_init 178 = .ok (.aload_n 0, 1) := by decide +kernel
theorem dX4_init_179 : decode cX4_init 179 = .ok (.sipush 200, 3) := by decide +kernel
theorem dX4_init_182 : decode cX4_init 182 = .ok (.newarray .int, 2) := by decide +kernel
theorem dX4_init_184 : decode cX4_init 184 = .ok (.putfield 77, 3) := by decide +kernel
theorem dX4_init_187 : decode cX4_init 187 = .ok (.aload_n 0, 1) := by decide +kernel
theorem dX4_init_188 : decode cX4_init 188 = .ok (.sipush 200, 3) := by decide +kernel
theorem dX4_init_191 : decode cX4_init 191 = .ok (.newarray .int, 2) := by decide +kernel
theorem dX4_init_193 : decode cX4_init 193 = .ok (.putfield 80, 3) := by decide +kernel
theorem dX4_init_196 : decode cX4_init 196 = .ok (.aload_n 0, 1) := by decide +kernel
theorem dX4_init_197 : decode cX4_init 197 = .ok (.sipush 200, 3) := by decide +kernel
theorem dX4_init_200 : decode cX4_init 200 = .ok (.newarray .int, 2) := by decide +kernel
theorem dX4_init_202 : decode cX4_init 202 = .ok (.putfield 83, 3) := by decide +kernel
theorem dX4_init_205 : decode cX4_init 205 = .ok (.aload_n 0, 1) := by decide +kernel
theorem dX4_init_206 : decode cX4_init 206 = .ok (.sipush 200, 3) := by decide +kernel
theorem dX4_init_209 : decode cX4_init 209 = .ok (.newarray .int, 2) := by decide +kernel
theorem dX4_init_211 : decode cX4_init 211 = .ok (.putfield 86, 3) := by decide +kernel
theorem dX4_init_214 : decode cX4_init 214 = .ok (.aload_n 0, 1) := by decide +kernel
theorem dX4_init_215 : decode cX4_init 215 = .ok (.sipush 200, 3) := by decide +kernel
theorem dX4_init_218 : decode cX4_init 218 = .ok (.newarray .int, 2) := by decide +kernel
theorem dX4_init_220 : decode cX4_init 220 = .ok (.putfield 89, 3) := by decide +kernel
theorem dX4_init_223 : decode cX4_init 223 = .ok (.aload_n 0, 1) := by decide +kernel
theorem dX4_init_224 : decode cX4_init 224 = .ok (.sipush 200, 3) := by decide +kernel
theorem dX4_init_227 : decode cX4_init 227 = .ok (.newarray .int, 2) := by decide +kernel
theorem dX4_init_229 : decode cX4_init 229 = .ok (.putfield 92, 3) := by decide +kernel
theorem dX4_init_232 : decode cX4_init 232 = .ok (.aload_n 0, 1) := by decide +kernel
theorem dX4_init_233 : decode cX4_init 233 = .ok (.sipush 200, 3) := by decide +kernel
theorem dX4_init_236 : decode cX4_init 236 = .ok (.newarray .boolean, 2) := by decide +kernel
theorem dX4_init_238 : decode cX4_init 238 = .ok (.putfield 95, 3) := by decide +kernel
theorem dX4_init_241 : decode cX4_init 241 = .ok (.aload_n 0, 1) := by decide +kernel
theorem dX4_init_242 : decode cX4_init 242 = .ok (.sipush 400, 3) := by decide +kernel
theorem dX4_init_245 : decode cX4_init 245 = .ok (.newarray .int, 2) := by decide +kernel
theorem dX4_init_247 : decode cX4_init 247 = .ok (.putfield 99, 3) := by decide +kernel
theorem dX4_init_250 : decode cX4_init 250 = .ok (.aload_n 0, 1) := by decide +kernel
theorem dX4_init_251 : decode cX4_init 251 = .ok (.sipush 400, 3) := by decide +kernel
theorem dX4_init_254 : decode cX4_init 254 = .ok (.newarray .int, 2) := by decide +kernel
theorem dX4_init_256 : decode cX4_init 256 = .ok (.putfield 102, 3) := by decide +kernel
theorem dX4_init_259 : decode cX4_init 259 = .ok (.aload_n 0, 1) := by decide +kernel
theorem dX4_init_260 : decode cX4_init 260 = .ok (.sipush 400, 3) := by decide +kernel
theorem dX4_init_263 : decode cX4_init 263 = .ok (.newarray .int, 2) := by decide +kernel
theorem dX4_init_265 : decode cX4_init 265 = .ok (.putfield 105, 3) := by decide +kernel
theorem dX4_init_268 : decode cX4_init 268 = .ok (.aload_n 0, 1) := by decide +kernel
theorem dX4_init_269 : decode cX4_init 269 = .ok (.sipush 400, 3) := by decide +kernel
theorem dX4_init_272 : decode cX4_init 272 = .ok (.newarray .boolean, 2) := by decide +kernel
theorem dX4_init_274 : decode cX4_init 274 = .ok (.putfield 108, 3) := by decide +kernel
theorem dX4_init_277 : decode cX4_init 277 = .ok (.aload_n 0, 1) := by decide +kernel
theorem dX4_init_278 : decode cX4_init 278 = .ok (.sipush 200, 3) := by decide +kernel
theorem dX4_init_281 : decode cX4_init 281 = .ok (.newarray .int, 2) := by decide +kernel
theorem dX4_init_283 : decode cX4_init 283 = .ok (.putfield 111, 3) := by decide +kernel
theorem dX4_init_286 : decode cX4_init 286 = .ok (.return_, 1) := by decide +kernel
theorem dX4_refuse_0 : decode cX4_refuse 0 = .ok (.aload_n 0, 1) := by decide +kernel
theorem dX4_refuse_1 : decode cX4_refuse 1 = .ok (.getfield 7, 3) := by decide +kernel
theorem dX4_refuse_4 : decode cX4_refuse 4 = .ok (.iload_n 1, 1) := by decide +kernel
theorem dX4_refuse_5 : decode cX4_refuse 5 = .ok (.ineg, 1) := by decide +kernel
theorem dX4_refuse_6 : decode cX4_refuse 6 = .ok (.dup2, 1) := by decide +kernel
theorem dX4_refuse_7 : decode cX4_refuse 7 = .ok (.iaload, 1) := by decide +kernel
theorem dX4_refuse_8 : decode cX4_refuse 8 = .ok (.iconst 1, 1) := by decide +kernel
theorem dX4_refuse_9 : decode cX4_refuse 9 = .ok (.iadd, 1) := by decide +kernel
theorem dX4_refuse_10 : decode cX4_refuse 10 = .ok (.iastore, 1) := by decide +kernel
theorem dX4_refuse_11 : decode cX4_refuse 11 = .ok (.iload_n 1, 1) := by decide +kernel
theorem dX4_refuse_12 : decode cX4_refuse 12 = .ok (.ireturn, 1) := by decide +kernel
theorem dX4_isIn_0 : decode cX4_isIn 0 = .ok (.iload_n 0, 1) := by decide +kernel
theorem dX4_isIn_1 : decode cX4_isIn 1 = .ok (.ifCond .lt 12, 3) := by decide +kernel
theorem dX4_isIn_4 : decode cX4_isIn 4 = .ok (.iload_n 0, 1) := by decide +kernel
theorem dX4_isIn_5 : decode cX4_isIn 5 = .ok (.iload_n 1, 1) := by decide +kernel
theorem dX4_isIn_6 : decode cX4_isIn 6 = .ok (.if_icmp .ge 7, 3) := by decide +kernel
theorem dX4_isIn_9 : decode cX4_isIn 9 = .ok (.iconst 1, 1) := by decide +kernel
theorem dX4_isIn_10 : decode cX4_isIn 10 = .ok (.goto 4, 3) := by decide +kernel
theorem dX4_isIn_13 : decode cX4_isIn 13 = .ok (.iconst 0, 1) := by decide +kernel
theorem dX4_isIn_14 : decode cX4_isIn 14 = .ok (.ireturn, 1) := by decide +kernel
set_option maxRecDepth 20000 in
theorem ggX4_isServer_X4_isIn : GoodIn wsX4_isServer wsX4_isIn := goodIn_r _ [5] (by decide +kernel) (by decide +kernel)
set_option maxRecDepth 20000 in
theorem gX4_isServer_X4_isIn : GoodIn wsX4_isServer (va_wsS RX4 117 yX4_isIn wsX4_isIn) := goodIn_app (goodIn_of _ (by decide +kernel)) ggX4_isServer_X4_isIn
theorem dX4_isServer_0 : decode cX4_isServer 0 = .ok (.iload_n 1, 1) := by decide +kernel
theorem dX4_isServer_1 : decode cX4_isServer 1 = .ok (.aload_n 0, 1) := by decide +kernel
theorem dX4_isServer_2 : decode cX4_isServer 2 = .ok (.getfield 114, 3) := by decide +kernel
theorem dX4_isServer_5 : decode cX4_isServer 5 = .ok (.invokestatic 117, 3) := by decide +kernel
theorem dX4_isServer_8 : decode cX4_isServer 8 = .ok (.ireturn, 1) := by decide +kernel
set_option maxRecDepth 20000 in
theorem ggX4_isCall_X4_isIn : GoodIn wsX4_isCall wsX4_isIn := goodIn_r _ [5] (by decide +kernel) (by decide +kernel)
set_option maxRecDepth 20000 in
theorem gX4_isCall_X4_isIn : GoodIn wsX4_isCall (va_wsS RX4 117 yX4_isIn wsX4_isIn) := goodIn_app (goodIn_of _ (by decide +kernel)) ggX4_isCall_X4_isIn
theorem dX4_isCall_0 : decode cX4_isCall 0 = .ok (.iload_n 1, 1) := by decide +kernel
theorem dX4_isCall_1 : decode cX4_isCall 1 = .ok (.aload_n 0, 1) := by decide +kernel
theorem dX4_isCall_2 : decode cX4_isCall 2 = .ok (.getfield 121, 3) := by decide +kernel
theorem dX4_isCall_5 : decode cX4_isCall 5 = .ok (.invokestatic 117, 3) := by decide +kernel
theorem dX4_isCall_8 : decode cX4_isCall 8 = .ok (.ireturn, 1) := by decide +kernel
set_option maxRecDepth 20000 in
theorem ggX4_server_X4_isIn : GoodIn wsX4_server wsX4_isIn := goodIn_r _ [11] (by decide +kernel) (by decide +kernel)
set_option maxRecDepth 20000 in
theorem gX4_server_X4_isIn : GoodIn wsX4_server (va_wsS RX4 117 yX4_isIn wsX4_isIn) := goodIn_app (goodIn_of _ (by decide +kernel)) ggX4_server_X4_isIn
set_option maxRecDepth 20000 in
theorem ggX4_server_X4_refuse : GoodIn wsX4_server wsX4_refuse := goodIn_r _ [15, 16, 17, 18, 19, 20, 21, 22, 23, 24, 25, 26, 27, 28, 29, 30, 31, 32, 33, 34, 35, 36, 37, 38, 39, 40, 41, 42, 43, 44, 45, 46, 47, 48, 49, 50, 51, 52, 53, 54, 55, 56, 57, 58, 59] (by decide +kernel) (by decide +kernel)
set_option maxRecDepth 20000 in
theorem gX4_server_X4_refuse : GoodIn wsX4_server (wsV RX4 124 RX4 yX4_refuse wsX4_refuse) := goodIn_app (goodIn_of _ (by decide +kernel)) ggX4_server_X4_refuse
theorem dX4_server_0 : decode cX4_server 0 = .ok (.iload_n 2, 1) := by decide +kernel
theorem dX4_server_1 : decode cX4_server 1 = .ok (.iconst 4, 1) := by decide +kernel
theorem dX4_server_2 : decode cX4_server 2 = .ok (.invokestatic 117, 3) := by decide +kernel
theorem dX4_server_5 : decode cX4_server 5 = .ok (.ifCond .ne 9, 3) := by decide +kernel
theorem dX4_server_8 : decode cX4_server 8 = .ok (.aload_n 0, 1) := by decide +kernel
theorem dX4_server_9 : decode cX4_server 9 = .ok (.iconst (-1), 1) := by decide +kernel
theorem dX4_server_10 : decode cX4_server 10 = .ok (.invokevirtual 124, 3) := by decide +kernel
theorem dX4_server_13 : decode cX4_server 13 = .ok (.ireturn, 1) := by decide +kernel
theorem dX4_server_14 : decode cX4_server 14 = .ok (.iload_n 1, 1) := by decide +kernel
theorem dX4_server_15 : decode cX4_server 15 = .ok (.iconst 1, 1) := by decide +kernel
theorem dX4_server_16 : decode cX4_server 16 = .ok (.if_icmp .lt 19, 3) := by decide +kernel
theorem dX4_server_19 : decode cX4_server 19 = .ok (.iload_n 3, 1) := by decide +kernel
theorem dX4_server_20 : decode cX4_server 20 = .ok (.iconst 1, 1) := by decide +kernel
theorem dX4_server_21 : decode cX4_server 21 = .ok (.if_icmp .lt 14, 3) := by decide +kernel
theorem dX4_server_24 : decode cX4_server 24 = .ok (.iload 4, 2) := by decide +kernel
theorem dX4_server_26 : decode cX4_server 26 = .ok (.iconst 1, 1) := by decide +kernel
theorem dX4_server_27 : decode cX4_server 27 = .ok (.if_icmp .lt 8, 3) := by decide +kernel
theorem dX4_server_30 : decode cX4_server 30 = .ok (.iload 5, 2) := by decide +kernel
theorem dX4_server_32 : decode cX4_server 32 = .ok (.ifCond .ge 10, 3) := by decide +kernel
theorem dX4_server_35 : decode cX4_server 35 = .ok (.aload_n 0, 1) := by decide +kernel
theorem dX4_server_36 : decode cX4_server 36 = .ok (.bipush (-4), 2) := by decide +kernel
theorem dX4_server_38 : decode cX4_server 38 = .ok (.invokevirtual 124, 3) := by decide +kernel
theorem dX4_server_41 : decode cX4_server 41 = .ok (.ireturn, 1) := by decide +kernel
theorem dX4_server_42 : decode cX4_server 42 = .ok (.iload_n 1, 1) := by decide +kernel
theorem dX4_server_43 : decode cX4_server 43 = .ok (.bipush 100, 2) := by decide +kernel
theorem dX4_server_45 : decode cX4_server 45 = .ok (.if_icmp .gt 33, 3) := by decide +kernel
theorem dX4_server_48 : decode cX4_server 48 = .ok (.iload_n 3, 1) := by decide +kernel
theorem dX4_server_49 : decode cX4_server 49 = .ok (.bipush 20, 2) := by decide +kernel
theorem dX4_server_51 : decode cX4_server 51 = .ok (.if_icmp .gt 27, 3) := by decide +kernel
theorem dX4_server_54 : decode cX4_server 54 = .ok (.iload 4, 2) := by decide +kernel
theorem dX4_server_56 : decode cX4_server 56 = .ok (.sipush 200, 3) := by decide +kernel
theorem dX4_server_59 : decode cX4_server 59 = .ok (.if_icmp .gt 19, 3) := by decide +kernel
theorem dX4_server_62 : decode cX4_server 62 = .ok (.iload 5, 2) := by decide +kernel
theorem dX4_server_64 : decode cX4_server 64 = .ok (.bipush 20, 2) := by decide +kernel
theorem dX4_server_66 : decode cX4_server 66 = .ok (.if_icmp .gt 12, 3) := by decide +kernel
theorem dX4_server_69 : decode cX4_server 69 = .ok (.aload_n 0, 1) := by decide +kernel
theorem dX4_server_70 : decode cX4_server 70 = .ok (.getfield 114, 3) := by decide +kernel
theorem dX4_server_73 : decode cX4_server 73 = .ok (.bipush 8, 2) := by decide +kernel
theorem dX4_server_75 : decode cX4_server 75 = .ok (.if_icmp .ne 10, 3) := by decide +kernel
theorem dX4_server_78 : decode cX4_server 78 = .ok (.aload_n 0, 1) := by decide +kernel
theorem dX4_server_79 : decode cX4_server 79 = .ok (.bipush (-6), 2) := by decide +kernel
theorem dX4_server_81 : decode cX4_server 81 = .ok (.invokevirtual 124, 3) := by decide +kernel
theorem dX4_server_84 : decode cX4_server 84 = .ok (.ireturn, 1) := by decide +kernel
theorem dX4_server_85 : decode cX4_server 85 = .ok (.aload_n 0, 1) := by decide +kernel
theorem dX4_server_86 : decode cX4_server 86 = .ok (.getfield 114, 3) := by decide +kernel
theorem dX4_server_89 : decode cX4_server 89 = .ok (.istore 6, 2) := by decide +kernel
theorem dX4_server_91 : decode cX4_server 91 = .ok (.aload_n 0, 1) := by decide +kernel
theorem dX4_server_92 : decode cX4_server 92 = .ok (.dup, 1) := by decide +kernel
theorem dX4_server_93 : decode cX4_server 93 = .ok (.getfield 114, 3) := by decide +kernel
theorem dX4_server_96 : decode cX4_server 96 = .ok (.iconst 1, 1) := by decide +kernel
theorem dX4_server_97 : decode cX4_server 97 = .ok (.iadd, 1) := by decide +kernel
theorem dX4_server_98 : decode cX4_server 98 = .ok (.putfield 114, 3) := by decide +kernel
theorem dX4_server_101 : decode cX4_server 101 = .ok (.aload_n 0, 1) := by decide +kernel
theorem dX4_server_102 : decode cX4_server 102 = .ok (.getfield 20, 3) := by decide +kernel
theorem dX4_server_105 : decode cX4_server 105 = .ok (.iload 6, 2) := by decide +kernel
theorem dX4_server_107 : decode cX4_server 107 = .ok (.iload_n 1, 1) := by decide +kernel
theorem dX4_server_108 : decode cX4_server 108 = .ok (.iastore, 1) := by decide +kernel
theorem dX4_server_109 : decode cX4_server 109 = .ok (.aload_n 0, 1) := by decide +kernel
theorem dX4_server_110 : decode cX4_server 110 = .ok (.getfield 23, 3) := by decide +kernel
theorem dX4_server_113 : decode cX4_server 113 = .ok (.iload 6, 2) := by decide +kernel
theorem dX4_server_115 : decode cX4_server 115 = .ok (.iload_n 2, 1) := by decide +kernel
theorem dX4_server_116 : decode cX4_server 116 = .ok (.iastore, 1) := by decide +kernel
theorem dX4_server_117 : decode cX4_server 117 = .ok (.aload_n 0, 1) := by decide +kernel
theorem dX4_server_118 : decode cX4_server 118 = .ok (.getfield 26, 3) := by decide +kernel
theorem dX4_server_121 : decode cX4_server 121 = .ok (.iload 6, 2) := by decide +kernel
theorem dX4_server_123 : decode cX4_server 123 = .ok (.iload_n 3, 1) := by decide +kernel
theorem dX4_server_124 : decode cX4_server 124 = .ok (.iastore, 1) := by decide +kernel
theorem dX4_server_125 : decode cX4_server 125 = .ok (.aload_n 0, 1) := by decide +kernel
theorem dX4_server_126 : decode cX4_server 126 = .ok (.getfield 29, 3) := by decide +kernel
theorem dX4_server_129 : decode cX4_server 129 = .ok (.iload 6, 2) := by decide +kernel
theorem dX4_server_131 : decode cX4_server 131 = .ok (.iload 4, 2) := by decide +kernel
theorem dX4_server_133 : decode cX4_server 133 = .ok (.iastore, 1) := by decide +kernel
theorem dX4_server_134 : decode cX4_server 134 = .ok (.aload_n 0, 1) := by decide +kernel
theorem dX4_server_135 : decode cX4_server 135 = .ok (.getfield 32, 3) := by decide +kernel
theorem dX4_server_138 : decode cX4_server 138 = .ok (.iload 6, 2) := by decide +kernel
theorem dX4_server_140 : decode cX4_server 140 = .ok (.iload 5, 2) := by decide +kernel
theorem dX4_server_142 : decode cX4_server 142 = .ok (.iastore, 1) := by decide +kernel
theorem dX4_server_143 : decode cX4_server 143 = .ok (.aload_n 0, 1) := by decide +kernel
theorem dX4_server_144 : decode cX4_server 144 = .ok (.getfield 59, 3) := by decide +kernel
theorem dX4_server_147 : decode cX4_server 147 = .ok (.iload 6, 2) := by decide +kernel
theorem dX4_server_149 : decode cX4_server 149 = .ok (.bipush 10, 2) := by decide +kernel
theorem dX4_server_151 : decode cX4_server 151 = .ok (.iastore, 1) := by decide +kernel
theorem dX4_server_152 : decode cX4_server 152 = .ok (.iload 6, 2) := by decide +kernel
theorem dX4_server_154 : decode cX4_server 154 = .ok (.ireturn, 1) := by decide +kernel
set_option maxRecDepth 20000 in
theorem ggX4_set_X4_isServer : GoodIn wsX4_set wsX4_isServer := goodIn_r _ [11, 12, 13, 14, 10, 15, 36, 37, 38, 39, 40, 41, 42, 43, 44, 45, 46, 47, 48, 49, 50, 51, 52, 53, 54, 55, 56, 57, 58, 59, 60, 61, 62, 63, 64, 65, 66, 67, 68, 69, 70, 71, 72, 73, 74, 75, 76, 77, 78] (by decide +kernel) (by decide +kernel)
set_option maxRecDepth 20000 in
theorem gX4_set_X4_isServer : GoodIn wsX4_set (wsV RX4 128 RX4 yX4_isServer wsX4_isServer) := goodIn_app (goodIn_of _ (by decide +kernel)) ggX4_set_X4_isServer
set_option maxRecDepth 20000 in
theorem ggX4_set_X4_refuse : GoodIn wsX4_set wsX4_refuse := goodIn_r _ [19, 20, 36, 37, 38, 39, 40, 41, 42, 43, 44, 45, 46, 47, 48, 49, 50, 51, 52, 53, 54, 55, 56, 57, 58, 59, 60, 61, 62, 63, 64, 65, 66, 67, 68, 69, 70, 71, 72, 73, 74, 75, 76, 77, 78] (by decide +kernel) (by decide +kernel)
set_option maxRecDepth 20000 in
theorem gX4_set_X4_refuse : GoodIn wsX4_set (wsV RX4 124 RX4 yX4_refuse wsX4_refuse) := goodIn_app (goodIn_of _ (by decide +kernel)) ggX4_set_X4_refuse
set_option maxRecDepth 20000 in
theorem ggX4_set_X4_isIn : GoodIn wsX4_set wsX4_isIn := goodIn_r _ [15] (by decide +kernel) (by decide +kernel)
set_option maxRecDepth 20000 in
theorem gX4_set_X4_isIn : GoodIn wsX4_set (va_wsS RX4 117 yX4_isIn wsX4_isIn) := goodIn_app (goodIn_of _ (by decide +kernel)) ggX4_set_X4_isIn
set_option maxRecDepth 20000 in
theorem ggX4_set_X4_serverOf : GoodIn wsX4_set wsX4_serverOf := goodIn_r _ [24, 1, 25, 26, 27, 28, 29, 30, 31, 32, 33, 34, 2, 35, 3, 4, 5, 6, 7, 8, 9, 10, 11, 12, 13, 14, 15, 16, 17, 18, 19, 20, 36, 37, 38, 39, 40, 41, 42, 43, 44, 45, 46, 47, 48, 49, 50, 51, 52, 53, 54, 55, 56, 57, 58, 59, 60, 61, 62, 63, 64, 65, 66, 67, 68, 69, 70, 71, 72, 73, 74, 75, 76, 77, 78] (by decide +kernel) (by decide +kernel)
set_option maxRecDepth 20000 in
theorem gX4_set_X4_serverOf : GoodIn wsX4_set (wsV RX4 132 RX4 yX4_serverOf wsX4_serverOf) := goodIn_app (goodIn_of _ (by decide +kernel)) ggX4_set_X4_serverOf
theorem dX4_set_0 : decode cX4_set 0 = .ok (.aload_n 0, 1) := by decide +kernel
theorem dX4_set_1 : decode cX4_set 1 = .ok (.iload_n 1, 1) := by decide +kernel
theorem dX4_set_2 : decode cX4_set 2 = .ok (.invokevirtual 128, 3) := by decide +kernel
theorem dX4_set_5 : decode cX4_set 5 = .ok (.ifCond .ne 9, 3) := by decide +kernel
theorem dX4_set_8 : decode cX4_set 8 = .ok (.aload_n 0, 1) := by decide +kernel
theorem dX4_set_9 : decode cX4_set 9 = .ok (.iconst (-1), 1) := by decide +kernel
theorem dX4_set_10 : decode cX4_set 10 = .ok (.invokevirtual 124, 3) := by decide +kernel
theorem dX4_set_13 : decode cX4_set 13 = .ok (.ireturn, 1) := by decide +kernel
theorem dX4_set_14 : decode cX4_set 14 = .ok (.iload_n 2, 1) := by decide +kernel
theorem dX4_set_15 : decode cX4_set 15 = .ok (.iconst 5, 1) := by decide +kernel
theorem dX4_set_16 : decode cX4_set 16 = .ok (.invokestatic 117, 3) := by decide +kernel
theorem dX4_set_19 : decode cX4_set 19 = .ok (.ifCond .ne 10, 3) := by decide +kernel
theorem dX4_set_22 : decode cX4_set 22 = .ok (.aload_n 0, 1) := by decide +kernel
theorem dX4_set_23 : decode cX4_set 23 = .ok (.bipush (-2), 2) := by decide +kernel
theorem dX4_set_25 : decode cX4_set 25 = .ok (.invokevirtual 124, 3) := by decide +kernel
theorem dX4_set_28 : decode cX4_set 28 = .ok (.ireturn, 1) := by decide +kernel
theorem dX4_set_29 : decode cX4_set 29 = .ok (.aload_n 0, 1) := by decide +kernel
theorem dX4_set_30 : decode cX4_set 30 = .ok (.getfield 38, 3) := by decide +kernel
theorem dX4_set_33 : decode cX4_set 33 = .ok (.iload_n 1, 1) := by decide +kernel
theorem dX4_set_34 : decode cX4_set 34 = .ok (.iaload, 1) := by decide +kernel
theorem dX4_set_35 : decode cX4_set 35 = .ok (.iconst 4, 1) := by decide +kernel
theorem dX4_set_36 : decode cX4_set 36 = .ok (.if_icmp .ne 10, 3) := by decide +kernel
theorem dX4_set_39 : decode cX4_set 39 = .ok (.aload_n 0, 1) := by decide +kernel
theorem dX4_set_40 : decode cX4_set 40 = .ok (.bipush (-3), 2) := by decide +kernel
theorem dX4_set_42 : decode cX4_set 42 = .ok (.invokevirtual 124, 3) := by decide +kernel
theorem dX4_set_45 : decode cX4_set 45 = .ok (.ireturn, 1) := by decide +kernel
theorem dX4_set_46 : decode cX4_set 46 = .ok (.iload_n 3, 1) := by decide +kernel
theorem dX4_set_47 : decode cX4_set 47 = .ok (.iload_n 2, 1) := by decide +kernel
theorem dX4_set_48 : decode cX4_set 48 = .ok (.iconst 3, 1) := by decide +kernel
theorem dX4_set_49 : decode cX4_set 49 = .ok (.if_icmp .ge 7, 3) := by decide +kernel
theorem dX4_set_52 : decode cX4_set 52 = .ok (.iconst 1, 1) := by decide +kernel
theorem dX4_set_53 : decode cX4_set 53 = .ok (.goto 4, 3) := by decide +kernel
theorem dX4_set_56 : decode cX4_set 56 = .ok (.iconst 0, 1) := by decide +kernel
theorem dX4_set_57 : decode cX4_set 57 = .ok (.if_icmp .ge 10, 3) := by decide +kernel
theorem dX4_set_60 : decode cX4_set 60 = .ok (.aload_n 0, 1) := by decide +kernel
theorem dX4_set_61 : decode cX4_set 61 = .ok (.bipush (-4), 2) := by decide +kernel
theorem dX4_set_63 : decode cX4_set 63 = .ok (.invokevirtual 124, 3) := by decide +kernel
theorem dX4_set_66 : decode cX4_set 66 = .ok (.ireturn, 1) := by decide +kernel
theorem dX4_set_67 : decode cX4_set 67 = .ok (.iload_n 3, 1) := by decide +kernel
theorem dX4_set_68 : decode cX4_set 68 = .ok (.iload_n 2, 1) := by decide +kernel
theorem dX4_set_69 : decode cX4_set 69 = .ok (.ifCond .ne 8, 3) := by decide +kernel
theorem dX4_set_72 : decode cX4_set 72 = .ok (.bipush 100, 2) := by decide +kernel
theorem dX4_set_74 : decode cX4_set 74 = .ok (.goto 30, 3) := by decide +kernel
theorem dX4_set_77 : decode cX4_set 77 = .ok (.iload_n 2, 1) := by decide +kernel
theorem dX4_set_78 : decode cX4_set 78 = .ok (.iconst 1, 1) := by decide +kernel
theorem dX4_set_79 : decode cX4_set 79 = .ok (.if_icmp .eq 8, 3) := by decide +kernel
theorem dX4_set_82 : decode cX4_set 82 = .ok (.iload_n 2, 1) := by decide +kernel
theorem dX4_set_83 : decode cX4_set 83 = .ok (.iconst 3, 1) := by decide +kernel
theorem dX4_set_84 : decode cX4_set 84 = .ok (.if_icmp .ne 8, 3) := by decide +kernel
theorem dX4_set_87 : decode cX4_set 87 = .ok (.bipush 20, 2) := by decide +kernel
theorem dX4_set_89 : decode cX4_set 89 = .ok (.goto 15, 3) := by decide +kernel
theorem dX4_set_92 : decode cX4_set 92 = .ok (.iload_n 2, 1) := by decide +kernel
theorem dX4_set_93 : decode cX4_set 93 = .ok (.iconst 2, 1) := by decide +kernel
theorem dX4_set_94 : decode cX4_set 94 = .ok (.if_icmp .ne 9, 3) := by decide +kernel
theorem dX4_set_97 : decode cX4_set 97 = .ok (.sipush 200, 3) := by decide +kernel
theorem dX4_set_100 : decode cX4_set 100 = .ok (.goto 4, 3) := by decide +kernel
theorem dX4_set_103 : decode cX4_set 103 = .ok (.iconst 1, 1) := by decide +kernel
theorem dX4_set_104 : decode cX4_set 104 = .ok (.if_icmp .le 10, 3) := by decide +kernel
theorem dX4_set_107 : decode cX4_set 107 = .ok (.aload_n 0, 1) := by decide +kernel
theorem dX4_set_108 : decode cX4_set 108 = .ok (.bipush (-6), 2) := by decide +kernel
theorem dX4_set_110 : decode cX4_set 110 = .ok (.invokevirtual 124, 3) := by decide +kernel
theorem dX4_set_113 : decode cX4_set 113 = .ok (.ireturn, 1) := by decide +kernel
theorem dX4_set_114 : decode cX4_set 114 = .ok (.aload_n 0, 1) := by decide +kernel
theorem dX4_set_115 : decode cX4_set 115 = .ok (.iload_n 1, 1) := by decide +kernel
theorem dX4_set_116 : decode cX4_set 116 = .ok (.iload_n 2, 1) := by decide +kernel
theorem dX4_set_117 : decode cX4_set 117 = .ok (.ifCond .ne 8, 3) := by decide +kernel
theorem dX4_set_120 : decode cX4_set 120 = .ok (.bipush 10, 2) := by decide +kernel
theorem dX4_set_122 : decode cX4_set 122 = .ok (.goto 7, 3) := by decide +kernel
theorem dX4_set_125 : decode cX4_set 125 = .ok (.bipush 11, 2) := by decide +kernel
theorem dX4_set_127 : decode cX4_set 127 = .ok (.iload_n 2, 1) := by decide +kernel
theorem dX4_set_128 : decode cX4_set 128 = .ok (.iadd, 1) := by decide +kernel
theorem dX4_set_129 : decode cX4_set 129 = .ok (.invokevirtual 132, 3) := by decide +kernel
theorem dX4_set_132 : decode cX4_set 132 = .ok (.istore 4, 2) := by decide +kernel
theorem dX4_set_134 : decode cX4_set 134 = .ok (.iload_n 2, 1) := by decide +kernel
theorem dX4_set_135 : decode cX4_set 135 = .ok (.ifCond .ne 13, 3) := by decide +kernel
theorem dX4_set_138 : decode cX4_set 138 = .ok (.aload_n 0, 1) := by decide +kernel
theorem dX4_set_139 : decode cX4_set 139 = .ok (.getfield 20, 3) := by decide +kernel
theorem dX4_set_142 : decode cX4_set 142 = .ok (.iload_n 1, 1) := by decide +kernel
theorem dX4_set_143 : decode cX4_set 143 = .ok (.iload_n 3, 1) := by decide +kernel
theorem dX4_set_144 : decode cX4_set 144 = .ok (.iastore, 1) := by decide +kernel
theorem dX4_set_145 : decode cX4_set 145 = .ok (.goto 55, 3) := by decide +kernel
theorem dX4_set_148 : decode cX4_set 148 = .ok (.iload_n 2, 1) := by decide +kernel
theorem dX4_set_149 : decode cX4_set 149 = .ok (.iconst 1, 1) := by decide +kernel
theorem dX4_set_150 : decode cX4_set 150 = .ok (.if_icmp .ne 13, 3) := by decide +kernel
theorem dX4_set_153 : decode cX4_set 153 = .ok (.aload_n 0, 1) := by decide +kernel
theorem dX4_set_154 : decode cX4_set 154 = .ok (.getfield 26, 3) := by decide +kernel
theorem dX4_set_157 : decode cX4_set 157 = .ok (.iload_n 1, 1) := by decide +kernel
theorem dX4_set_158 : decode cX4_set 158 = .ok (.iload_n 3, 1) := by decide +kernel
theorem dX4_set_159 : decode cX4_set 159 = .ok (.iastore, 1) := by decide +kernel
theorem dX4_set_160 : decode cX4_set 160 = .ok (.goto 40, 3) := by decide +kernel
theorem dX4_set_163 : decode cX4_set 163 = .ok (.iload_n 2, 1) := by decide +kernel
theorem dX4_set_164 : decode cX4_set 164 = .ok (.iconst 2, 1) := by decide +kernel
theorem dX4_set_165 : decode cX4_set 165 = .ok (.if_icmp .ne 13, 3) := by decide +kernel
theorem dX4_set_168 : decode cX4_set 168 = .ok (.aload_n 0, 1) := by decide +kernel
theorem dX4_set_169 : decode cX4_set 169 = .ok (.getfield 29, 3) := by decide +kernel
theorem dX4_set_172 : decode cX4_set 172 = .ok (.iload_n 1, 1) := by decide +kernel
theorem dX4_set_173 : decode cX4_set 173 = .ok (.iload_n 3, 1) := by decide +kernel
theorem dX4_set_174 : decode cX4_set 174 = .ok (.iastore, 1) := by decide +kernel
theorem dX4_set_175 : decode cX4_set 175 = .ok (.goto 25, 3) := by decide +kernel
theorem dX4_set_178 : decode cX4_set 178 = .ok (.iload_n 2, 1) := by decide +kernel
theorem dX4_set_179 : decode cX4_set 179 = .ok (.iconst 3, 1) := by decide +kernel
theorem dX4_set_180 : decode cX4_set 180 = .ok (.if_icmp .ne 13, 3) := by decide +kernel
theorem dX4_set_183 : decode cX4_set 183 = .ok (.aload_n 0, 1) := by decide +kernel
theorem dX4_set_184 : decode cX4_set 184 = .ok (.getfield 32, 3) := by decide +kernel
theorem dX4_set_187 : decode cX4_set 187 = .ok (.iload_n 1, 1) := by decide +kernel
theorem dX4_set_188 : decode cX4_set 188 = .ok (.iload_n 3, 1) := by decide +kernel
theorem dX4_set_189 : decode cX4_set 189 = .ok (.iastore, 1) := by decide +kernel
theorem dX4_set_190 : decode cX4_set 190 = .ok (.goto 10, 3) := by decide +kernel
theorem dX4_set_193 : decode cX4_set 193 = .ok (.aload_n 0, 1) := by decide +kernel
theorem dX4_set_194 : decode cX4_set 194 = .ok (.getfield 35, 3) := by decide +kernel
theorem dX4_set_197 : decode cX4_set 197 = .ok (.iload_n 1, 1) := by decide +kernel
theorem dX4_set_198 : decode cX4_set 198 = .ok (.iload_n 3, 1) := by decide +kernel
theorem dX4_set_199 : decode cX4_set 199 = .ok (.iastore, 1) := by decide +kernel
theorem dX4_set_200 : decode cX4_set 200 = .ok (.iload 4, 2) := by decide +kernel
theorem dX4_set_202 : decode cX4_set 202 = .ok (.ireturn, 1) := by decide +kernel
set_option maxRecDepth 20000 in
theorem ggX4_drain_X4_isServer : GoodIn wsX4_drain wsX4_isServer := goodIn_r _ [7, 8, 9, 10, 6, 11, 17, 18, 19, 20, 21, 22, 23, 24, 25, 26, 27, 28, 29, 30, 31, 32, 33, 34, 35, 36, 37, 38, 39, 40, 41, 42, 43, 44, 45, 46, 47, 48, 49, 50, 51, 52, 53, 54, 55, 56, 57, 58, 59] (by decide +kernel) (by decide +kernel)
set_option maxRecDepth 20000 in
theorem gX4_drain_X4_isServer : GoodIn wsX4_drain (wsV RX4 128 RX4 yX4_isServer wsX4_isServer) := goodIn_app (goodIn_of _ (by decide +kernel)) ggX4_drain_X4_isServer
set_option maxRecDepth 20000 in
theorem ggX4_drain_X4_refuse : GoodIn wsX4_drain wsX4_refuse := goodIn_r _ [15, 16, 17, 18, 19, 20, 21, 22, 23, 24, 25, 26, 27, 28, 29, 30, 31, 32, 33, 34, 35, 36, 37, 38, 39, 40, 41, 42, 43, 44, 45, 46, 47, 48, 49, 50, 51, 52, 53, 54, 55, 56, 57, 58, 59] (by decide +kernel) (by decide +kernel)
set_option maxRecDepth 20000 in
theorem gX4_drain_X4_refuse : GoodIn wsX4_drain (wsV RX4 124 RX4 yX4_refuse wsX4_refuse) := goodIn_app (goodIn_of _ (by decide +kernel)) ggX4_drain_X4_refuse
theorem dX4_drain_0 : decode cX4_drain 0 = .ok (.aload_n 0, 1) := by decide +kernel
theorem dX4_drain_1 : decode cX4_drain 1 = .ok (.iload_n 1, 1) := by decide +kernel
theorem dX4_drain_2 : decode cX4_drain 2 = .ok (.invokevirtual 128, 3) := by decide +kernel
theorem dX4_drain_5 : decode cX4_drain 5 = .ok (.ifCond .ne 9, 3) := by decide +kernel
theorem dX4_drain_8 : decode cX4_drain 8 = .ok (.aload_n 0, 1) := by decide +kernel
theorem dX4_drain_9 : decode cX4_drain 9 = .ok (.iconst (-1), 1) := by decide +kernel
theorem dX4_drain_10 : decode cX4_drain 10 = .ok (.invokevirtual 124, 3) := by decide +kernel
theorem dX4_drain_13 : decode cX4_drain 13 = .ok (.ireturn, 1) := by decide +kernel
theorem dX4_drain_14 : decode cX4_drain 14 = .ok (.aload_n 0, 1) := by decide +kernel
theorem dX4_drain_15 : decode cX4_drain 15 = .ok (.getfield 38, 3) := by decide +kernel
theorem dX4_drain_18 : decode cX4_drain 18 = .ok (.iload_n 1, 1) := by decide +kernel
theorem dX4_drain_19 : decode cX4_drain 19 = .ok (.iaload, 1) := by decide +kernel
theorem dX4_drain_20 : decode cX4_drain 20 = .ok (.iconst 4, 1) := by decide +kernel
theorem dX4_drain_21 : decode cX4_drain 21 = .ok (.if_icmp .eq 13, 3) := by decide +kernel
theorem dX4_drain_24 : decode cX4_drain 24 = .ok (.aload_n 0, 1) := by decide +kernel
theorem dX4_drain_25 : decode cX4_drain 25 = .ok (.getfield 38, 3) := by decide +kernel
theorem dX4_drain_28 : decode cX4_drain 28 = .ok (.iload_n 1, 1) := by decide +kernel
theorem dX4_drain_29 : decode cX4_drain 29 = .ok (.iaload, 1) := by decide +kernel
theorem dX4_drain_30 : decode cX4_drain 30 = .ok (.iconst 3, 1) := by decide +kernel
theorem dX4_drain_31 : decode cX4_drain 31 = .ok (.if_icmp .ne 10, 3) := by decide +kernel
theorem dX4_drain_34 : decode cX4_drain 34 = .ok (.aload_n 0, 1) := by decide +kernel
theorem dX4_drain_35 : decode cX4_drain 35 = .ok (.bipush (-3), 2) := by decide +kernel
theorem dX4_drain_37 : decode cX4_drain 37 = .ok (.invokevirtual 124, 3) := by decide +kernel
theorem dX4_drain_40 : decode cX4_drain 40 = .ok (.ireturn, 1) := by decide +kernel
theorem dX4_drain_41 : decode cX4_drain 41 = .ok (.aload_n 0, 1) := by decide +kernel
theorem dX4_drain_42 : decode cX4_drain 42 = .ok (.getfield 38, 3) := by decide +kernel
theorem dX4_drain_45 : decode cX4_drain 45 = .ok (.iload_n 1, 1) := by decide +kernel
theorem dX4_drain_46 : decode cX4_drain 46 = .ok (.aload_n 0, 1) := by decide +kernel
theorem dX4_drain_47 : decode cX4_drain 47 = .ok (.getfield 41, 3) := by decide +kernel
theorem dX4_drain_50 : decode cX4_drain 50 = .ok (.iload_n 1, 1) := by decide +kernel
theorem dX4_drain_51 : decode cX4_drain 51 = .ok (.iaload, 1) := by decide +kernel
theorem dX4_drain_52 : decode cX4_drain 52 = .ok (.ifCond .ne 7, 3) := by decide +kernel
theorem dX4_drain_55 : decode cX4_drain 55 = .ok (.iconst 4, 1) := by decide +kernel
theorem dX4_drain_56 : decode cX4_drain 56 = .ok (.goto 4, 3) := by decide +kernel
theorem dX4_drain_59 : decode cX4_drain 59 = .ok (.iconst 3, 1) := by decide +kernel
theorem dX4_drain_60 : decode cX4_drain 60 = .ok (.iastore, 1) := by decide +kernel
theorem dX4_drain_61 : decode cX4_drain 61 = .ok (.aload_n 0, 1) := by decide +kernel
theorem dX4_drain_62 : decode cX4_drain 62 = .ok (.getfield 41, 3) := by decide +kernel
theorem dX4_drain_65 : decode cX4_drain 65 = .ok (.iload_n 1, 1) := by decide +kernel
theorem dX4_drain_66 : decode cX4_drain 66 = .ok (.iaload, 1) := by decide +kernel
theorem dX4_drain_67 : decode cX4_drain 67 = .ok (.ireturn, 1) := by decide +kernel
set_option maxRecDepth 20000 in
theorem ggX4_back_X4_isServer : GoodIn wsX4_back wsX4_isServer := goodIn_r _ [8, 9, 10, 11, 7, 12, 18, 19, 20, 21, 22, 23, 24, 25, 26, 27, 28, 29, 30, 31, 32, 33, 34, 35, 36, 37, 38, 39, 40, 41, 42, 43, 44, 45, 46, 47, 48, 49, 50, 51, 52, 53, 54, 55, 56, 57, 58, 59, 60] (by decide +kernel) (by decide +kernel)
set_option maxRecDepth 20000 in
theorem gX4_back_X4_isServer : GoodIn wsX4_back (wsV RX4 128 RX4 yX4_isServer wsX4_isServer) := goodIn_app (goodIn_of _ (by decide +kernel)) ggX4_back_X4_isServer
set_option maxRecDepth 20000 in
theorem ggX4_back_X4_refuse : GoodIn wsX4_back wsX4_refuse := goodIn_r _ [16, 17, 18, 19, 20, 21, 22, 23, 24, 25, 26, 27, 28, 29, 30, 31, 32, 33, 34, 35, 36, 37, 38, 39, 40, 41, 42, 43, 44, 45, 46, 47, 48, 49, 50, 51, 52, 53, 54, 55, 56, 57, 58, 59, 60] (by decide +kernel) (by decide +kernel)
set_option maxRecDepth 20000 in
theorem gX4_back_X4_refuse : GoodIn wsX4_back (wsV RX4 124 RX4 yX4_refuse wsX4_refuse) := goodIn_app (goodIn_of _ (by decide +kernel)) ggX4_back_X4_refuse
theorem dX4_back_0 : decode cX4_back 0 = .ok (.aload_n 0, 1) := by decide +kernel
theorem dX4_back_1 : decode cX4_back 1 = .ok (.iload_n 1, 1) := by decide +kernel
theorem dX4_back_2 : decode cX4_back 2 = .ok (.invokevirtual 128, 3) := by decide +kernel
theorem dX4_back_5 : decode cX4_back 5 = .ok (.ifCond .ne 9, 3) := by decide +kernel
theorem dX4_back_8 : decode cX4_back 8 = .ok (.aload_n 0, 1) := by decide +kernel
theorem dX4_back_9 : decode cX4_back 9 = .ok (.iconst (-1), 1) := by decide +kernel
theorem dX4_back_10 : decode cX4_back 10 = .ok (.invokevirtual 124, 3) := by decide +kernel
theorem dX4_back_13 : decode cX4_back 13 = .ok (.ireturn, 1) := by decide +kernel
theorem dX4_back_14 : decode cX4_back 14 = .ok (.aload_n 0, 1) := by decide +kernel
theorem dX4_back_15 : decode cX4_back 15 = .ok (.getfield 38, 3) := by decide +kernel
theorem dX4_back_18 : decode cX4_back 18 = .ok (.iload_n 1, 1) := by decide +kernel
theorem dX4_back_19 : decode cX4_back 19 = .ok (.iaload, 1) := by decide +kernel
theorem dX4_back_20 : decode cX4_back 20 = .ok (.iconst 4, 1) := by decide +kernel
theorem dX4_back_21 : decode cX4_back 21 = .ok (.if_icmp .eq 20, 3) := by decide +kernel
theorem dX4_back_24 : decode cX4_back 24 = .ok (.aload_n 0, 1) := by decide +kernel
theorem dX4_back_25 : decode cX4_back 25 = .ok (.getfield 38, 3) := by decide +kernel
theorem dX4_back_28 : decode cX4_back 28 = .ok (.iload_n 1, 1) := by decide +kernel
theorem dX4_back_29 : decode cX4_back 29 = .ok (.iaload, 1) := by decide +kernel
theorem dX4_back_30 : decode cX4_back 30 = .ok (.iconst 3, 1) := by decide +kernel
theorem dX4_back_31 : decode cX4_back 31 = .ok (.if_icmp .eq 10, 3) := by decide +kernel
theorem dX4_back_34 : decode cX4_back 34 = .ok (.aload_n 0, 1) := by decide +kernel
theorem dX4_back_35 : decode cX4_back 35 = .ok (.bipush (-3), 2) := by decide +kernel
theorem dX4_back_37 : decode cX4_back 37 = .ok (.invokevirtual 124, 3) := by decide +kernel
theorem dX4_back_40 : decode cX4_back 40 = .ok (.ireturn, 1) := by decide +kernel
theorem dX4_back_41 : decode cX4_back 41 = .ok (.aload_n 0, 1) := by decide +kernel
theorem dX4_back_42 : decode cX4_back 42 = .ok (.getfield 38, 3) := by decide +kernel
theorem dX4_back_45 : decode cX4_back 45 = .ok (.iload_n 1, 1) := by decide +kernel
theorem dX4_back_46 : decode cX4_back 46 = .ok (.iconst 2, 1) := by decide +kernel
theorem dX4_back_47 : decode cX4_back 47 = .ok (.iastore, 1) := by decide +kernel
theorem dX4_back_48 : decode cX4_back 48 = .ok (.aload_n 0, 1) := by decide +kernel
theorem dX4_back_49 : decode cX4_back 49 = .ok (.getfield 53, 3) := by decide +kernel
theorem dX4_back_52 : decode cX4_back 52 = .ok (.iload_n 1, 1) := by decide +kernel
theorem dX4_back_53 : decode cX4_back 53 = .ok (.iconst 0, 1) := by decide +kernel
theorem dX4_back_54 : decode cX4_back 54 = .ok (.iastore, 1) := by decide +kernel
theorem dX4_back_55 : decode cX4_back 55 = .ok (.aload_n 0, 1) := by decide +kernel
theorem dX4_back_56 : decode cX4_back 56 = .ok (.getfield 59, 3) := by decide +kernel
theorem dX4_back_59 : decode cX4_back 59 = .ok (.iload_n 1, 1) := by decide +kernel
theorem dX4_back_60 : decode cX4_back 60 = .ok (.bipush 10, 2) := by decide +kernel
theorem dX4_back_62 : decode cX4_back 62 = .ok (.iastore, 1) := by decide +kernel
theorem dX4_back_63 : decode cX4_back 63 = .ok (.iconst 1, 1) := by decide +kernel
theorem dX4_back_64 : decode cX4_back 64 = .ok (.ireturn, 1) := by decide +kernel
set_option maxRecDepth 20000 in
theorem ggX4_rule_X4_isIn : GoodIn wsX4_rule wsX4_isIn := goodIn_r _ [5] (by decide +kernel) (by decide +kernel)
set_option maxRecDepth 20000 in
theorem gX4_rule_X4_isIn : GoodIn wsX4_rule (va_wsS RX4 117 yX4_isIn wsX4_isIn) := goodIn_app (goodIn_of _ (by decide +kernel)) ggX4_rule_X4_isIn
set_option maxRecDepth 20000 in
theorem ggX4_rule_X4_refuse : GoodIn wsX4_rule wsX4_refuse := goodIn_r _ [9, 10, 11, 12, 13, 14, 15, 16, 17, 18, 19, 20, 21, 22, 23, 24, 25, 26, 27, 28, 29, 30, 31, 32, 33, 34, 35, 36, 37, 38, 39, 40, 41, 42, 43, 44, 45, 46, 47, 48, 49, 50, 51, 52, 53] (by decide +kernel) (by decide +kernel)
set_option maxRecDepth 20000 in
theorem gX4_rule_X4_refuse : GoodIn wsX4_rule (wsV RX4 124 RX4 yX4_refuse wsX4_refuse) := goodIn_app (goodIn_of _ (by decide +kernel)) ggX4_rule_X4_refuse
theorem dX4_rule_0 : decode cX4_rule 0 = .ok (.iload_n 1, 1) := by decide +kernel
theorem dX4_rule_1 : decode cX4_rule 1 = .ok (.iconst 4, 1) := by decide +kernel
theorem dX4_rule_2 : decode cX4_rule 2 = .ok (.invokestatic 117, 3) := by decide +kernel
theorem dX4_rule_5 : decode cX4_rule 5 = .ok (.ifCond .ne 9, 3) := by decide +kernel
theorem dX4_rule_8 : decode cX4_rule 8 = .ok (.aload_n 0, 1) := by decide +kernel
theorem dX4_rule_9 : decode cX4_rule 9 = .ok (.iconst (-1), 1) := by decide +kernel
theorem dX4_rule_10 : decode cX4_rule 10 = .ok (.invokevirtual 124, 3) := by decide +kernel
theorem dX4_rule_13 : decode cX4_rule 13 = .ok (.ireturn, 1) := by decide +kernel
theorem dX4_rule_14 : decode cX4_rule 14 = .ok (.aload_n 0, 1) := by decide +kernel
theorem dX4_rule_15 : decode cX4_rule 15 = .ok (.getfield 136, 3) := by decide +kernel
theorem dX4_rule_18 : decode cX4_rule 18 = .ok (.istore_n 2, 1) := by decide +kernel
theorem dX4_rule_19 : decode cX4_rule 19 = .ok (.aload_n 0, 1) := by decide +kernel
theorem dX4_rule_20 : decode cX4_rule 20 = .ok (.iload_n 1, 1) := by decide +kernel
theorem dX4_rule_21 : decode cX4_rule 21 = .ok (.putfield 136, 3) := by decide +kernel
theorem dX4_rule_24 : decode cX4_rule 24 = .ok (.iload_n 2, 1) := by decide +kernel
theorem dX4_rule_25 : decode cX4_rule 25 = .ok (.ireturn, 1) := by decide +kernel
set_option maxRecDepth 20000 in
theorem ggX4_limit_X4_refuse : GoodIn wsX4_limit wsX4_refuse := goodIn_r _ [6, 7, 8, 9, 10, 11, 12, 13, 14, 15, 16, 17, 18, 19, 20, 21, 22, 23, 24, 25, 26, 27, 28, 29, 30, 31, 32, 33, 34, 35, 36, 37, 38, 39, 40, 41, 42, 43, 44, 45, 46, 47, 48, 49, 50] (by decide +kernel) (by decide +kernel)
set_option maxRecDepth 20000 in
theorem gX4_limit_X4_refuse : GoodIn wsX4_limit (wsV RX4 124 RX4 yX4_refuse wsX4_refuse) := goodIn_app (goodIn_of _ (by decide +kernel)) ggX4_limit_X4_refuse
theorem dX4_limit_0 : decode cX4_limit 0 = .ok (.iload_n 1, 1) := by decide +kernel
theorem dX4_limit_1 : decode cX4_limit 1 = .ok (.iconst 1, 1) := by decide +kernel
theorem dX4_limit_2 : decode cX4_limit 2 = .ok (.if_icmp .ge 10, 3) := by decide +kernel
theorem dX4_limit_5 : decode cX4_limit 5 = .ok (.aload_n 0, 1) := by decide +kernel
theorem dX4_limit_6 : decode cX4_limit 6 = .ok (.bipush (-4), 2) := by decide +kernel
theorem dX4_limit_8 : decode cX4_limit 8 = .ok (.invokevirtual 124, 3) := by decide +kernel
theorem dX4_limit_11 : decode cX4_limit 11 = .ok (.ireturn, 1) := by decide +kernel
theorem dX4_limit_12 : decode cX4_limit 12 = .ok (.iload_n 1, 1) := by decide +kernel
theorem dX4_limit_13 : decode cX4_limit 13 = .ok (.bipush 10, 2) := by decide +kernel
theorem dX4_limit_15 : decode cX4_limit 15 = .ok (.if_icmp .le 10, 3) := by decide +kernel
theorem dX4_limit_18 : decode cX4_limit 18 = .ok (.aload_n 0, 1) := by decide +kernel
theorem dX4_limit_19 : decode cX4_limit 19 = .ok (.bipush (-6), 2) := by decide +kernel
theorem dX4_limit_21 : decode cX4_limit 21 = .ok (.invokevirtual 124, 3) := by decide +kernel
theorem dX4_limit_24 : decode cX4_limit 24 = .ok (.ireturn, 1) := by decide +kernel
theorem dX4_limit_25 : decode cX4_limit 25 = .ok (.aload_n 0, 1) := by decide +kernel
theorem dX4_limit_26 : decode cX4_limit 26 = .ok (.getfield 13, 3) := by decide +kernel
theorem dX4_limit_29 : decode cX4_limit 29 = .ok (.istore_n 2, 1) := by decide +kernel
theorem dX4_limit_30 : decode cX4_limit 30 = .ok (.aload_n 0, 1) := by decide +kernel
theorem dX4_limit_31 : decode cX4_limit 31 = .ok (.iload_n 1, 1) := by decide +kernel
theorem dX4_limit_32 : decode cX4_limit 32 = .ok (.putfield 13, 3) := by decide +kernel
theorem dX4_limit_35 : decode cX4_limit 35 = .ok (.iload_n 2, 1) := by decide +kernel
theorem dX4_limit_36 : decode cX4_limit 36 = .ok (.ireturn, 1) := by decide +kernel
set_option maxRecDepth 20000 in
theorem ggX4_budget_X4_refuse : GoodIn wsX4_budget wsX4_refuse := goodIn_r _ [6, 7, 8, 9, 10, 11, 12, 13, 14, 15, 16, 17, 18, 19, 20, 21, 22, 23, 24, 25, 26, 27, 28, 29, 30, 31, 32, 33, 34, 35, 36, 37, 38, 39, 40, 41, 42, 43, 44, 45, 46, 47, 48, 49, 50] (by decide +kernel) (by decide +kernel)
set_option maxRecDepth 20000 in
theorem gX4_budget_X4_refuse : GoodIn wsX4_budget (wsV RX4 124 RX4 yX4_refuse wsX4_refuse) := goodIn_app (goodIn_of _ (by decide +kernel)) ggX4_budget_X4_refuse
theorem dX4_budget_0 : decode cX4_budget 0 = .ok (.iload_n 1, 1) := by decide +kernel
theorem dX4_budget_1 : decode cX4_budget 1 = .ok (.ifCond .ge 10, 3) := by decide +kernel
theorem dX4_budget_4 : decode cX4_budget 4 = .ok (.aload_n 0, 1) := by decide +kernel
theorem dX4_budget_5 : decode cX4_budget 5 = .ok (.bipush (-4), 2) := by decide +kernel
theorem dX4_budget_7 : decode cX4_budget 7 = .ok (.invokevirtual 124, 3) := by decide +kernel
theorem dX4_budget_10 : decode cX4_budget 10 = .ok (.ireturn, 1) := by decide +kernel
theorem dX4_budget_11 : decode cX4_budget 11 = .ok (.iload_n 1, 1) := by decide +kernel
theorem dX4_budget_12 : decode cX4_budget 12 = .ok (.bipush 100, 2) := by decide +kernel
theorem dX4_budget_14 : decode cX4_budget 14 = .ok (.if_icmp .le 10, 3) := by decide +kernel
theorem dX4_budget_17 : decode cX4_budget 17 = .ok (.aload_n 0, 1) := by decide +kernel
theorem dX4_budget_18 : decode cX4_budget 18 = .ok (.bipush (-6), 2) := by decide +kernel
theorem dX4_budget_20 : decode cX4_budget 20 = .ok (.invokevirtual 124, 3) := by decide +kernel
theorem dX4_budget_23 : decode cX4_budget 23 = .ok (.ireturn, 1) := by decide +kernel
theorem dX4_budget_24 : decode cX4_budget 24 = .ok (.aload_n 0, 1) := by decide +kernel
theorem dX4_budget_25 : decode cX4_budget 25 = .ok (.getfield 17, 3) := by decide +kernel
theorem dX4_budget_28 : decode cX4_budget 28 = .ok (.istore_n 2, 1) := by decide +kernel
theorem dX4_budget_29 : decode cX4_budget 29 = .ok (.aload_n 0, 1) := by decide +kernel
theorem dX4_budget_30 : decode cX4_budget 30 = .ok (.iload_n 1, 1) := by decide +kernel
theorem dX4_budget_31 : decode cX4_budget 31 = .ok (.putfield 17, 3) := by decide +kernel
theorem dX4_budget_34 : decode cX4_budget 34 = .ok (.iload_n 2, 1) := by decide +kernel
theorem dX4_budget_35 : decode cX4_budget 35 = .ok (.ireturn, 1) := by decide +kernel
set_option maxRecDepth 20000 in
theorem ggX4_hedge_X4_refuse : GoodIn wsX4_hedge wsX4_refuse := goodIn_r _ [6, 7, 8, 9, 10, 11, 12, 13, 14, 15, 16, 17, 18, 19, 20, 21, 22, 23, 24, 25, 26, 27, 28, 29, 30, 31, 32, 33, 34, 35, 36, 37, 38, 39, 40, 41, 42, 43, 44, 45, 46, 47, 48, 49, 50] (by decide +kernel) (by decide +kernel)
set_option maxRecDepth 20000 in
theorem gX4_hedge_X4_refuse : GoodIn wsX4_hedge (wsV RX4 124 RX4 yX4_refuse wsX4_refuse) := goodIn_app (goodIn_of _ (by decide +kernel)) ggX4_hedge_X4_refuse
theorem dX4_hedge_0 : decode cX4_hedge 0 = .ok (.iload_n 1, 1) := by decide +kernel
theorem dX4_hedge_1 : decode cX4_hedge 1 = .ok (.ifCond .ge 10, 3) := by decide +kernel
theorem dX4_hedge_4 : decode cX4_hedge 4 = .ok (.aload_n 0, 1) := by decide +kernel
theorem dX4_hedge_5 : decode cX4_hedge 5 = .ok (.bipush (-4), 2) := by decide +kernel
theorem dX4_hedge_7 : decode cX4_hedge 7 = .ok (.invokevirtual 124, 3) := by decide +kernel
theorem dX4_hedge_10 : decode cX4_hedge 10 = .ok (.ireturn, 1) := by decide +kernel
theorem dX4_hedge_11 : decode cX4_hedge 11 = .ok (.iload_n 1, 1) := by decide +kernel
theorem dX4_hedge_12 : decode cX4_hedge 12 = .ok (.sipush 500, 3) := by decide +kernel
theorem dX4_hedge_15 : decode cX4_hedge 15 = .ok (.if_icmp .le 10, 3) := by decide +kernel
theorem dX4_hedge_18 : decode cX4_hedge 18 = .ok (.aload_n 0, 1) := by decide +kernel
theorem dX4_hedge_19 : decode cX4_hedge 19 = .ok (.bipush (-6), 2) := by decide +kernel
theorem dX4_hedge_21 : decode cX4_hedge 21 = .ok (.invokevirtual 124, 3) := by decide +kernel
theorem dX4_hedge_24 : decode cX4_hedge 24 = .ok (.ireturn, 1) := by decide +kernel
theorem dX4_hedge_25 : decode cX4_hedge 25 = .ok (.aload_n 0, 1) := by decide +kernel
theorem dX4_hedge_26 : decode cX4_hedge 26 = .ok (.getfield 139, 3) := by decide +kernel
theorem dX4_hedge_29 : decode cX4_hedge 29 = .ok (.istore_n 2, 1) := by decide +kernel
theorem dX4_hedge_30 : decode cX4_hedge 30 = .ok (.aload_n 0, 1) := by decide +kernel
theorem dX4_hedge_31 : decode cX4_hedge 31 = .ok (.iload_n 1, 1) := by decide +kernel
theorem dX4_hedge_32 : decode cX4_hedge 32 = .ok (.putfield 139, 3) := by decide +kernel
theorem dX4_hedge_35 : decode cX4_hedge 35 = .ok (.iload_n 2, 1) := by decide +kernel
theorem dX4_hedge_36 : decode cX4_hedge 36 = .ok (.ireturn, 1) := by decide +kernel
theorem dX4_mays_0 : decode cX4_mays 0 = .ok (.iconst 0, 1) := by decide +kernel
theorem dX4_mays_1 : decode cX4_mays 1 = .ok (.istore_n 2, 1) := by decide +kernel
theorem dX4_mays_2 : decode cX4_mays 2 = .ok (.iconst 0, 1) := by decide +kernel
theorem dX4_mays_3 : decode cX4_mays 3 = .ok (.istore_n 3, 1) := by decide +kernel
theorem dX4_mays_4 : decode cX4_mays 4 = .ok (.iload_n 3, 1) := by decide +kernel
theorem dX4_mays_5 : decode cX4_mays 5 = .ok (.aload_n 0, 1) := by decide +kernel
theorem dX4_mays_6 : decode cX4_mays 6 = .ok (.getfield 114, 3) := by decide +kernel
theorem dX4_mays_9 : decode cX4_mays 9 = .ok (.if_icmp .ge 66, 3) := by decide +kernel
theorem dX4_mays_12 : decode cX4_mays 12 = .ok (.iload_n 1, 1) := by decide +kernel
theorem dX4_mays_13 : decode cX4_mays 13 = .ok (.iload_n 3, 1) := by decide +kernel
theorem dX4_mays_14 : decode cX4_mays 14 = .ok (.ishr, 1) := by decide +kernel
theorem dX4_mays_15 : decode cX4_mays 15 = .ok (.iconst 1, 1) := by decide +kernel
theorem dX4_mays_16 : decode cX4_mays 16 = .ok (.iand, 1) := by decide +kernel
theorem dX4_mays_17 : decode cX4_mays 17 = .ok (.ifCond .ne 52, 3) := by decide +kernel
theorem dX4_mays_20 : decode cX4_mays 20 = .ok (.aload_n 0, 1) := by decide +kernel
theorem dX4_mays_21 : decode cX4_mays 21 = .ok (.getfield 41, 3) := by decide +kernel
theorem dX4_mays_24 : decode cX4_mays 24 = .ok (.iload_n 3, 1) := by decide +kernel
theorem dX4_mays_25 : decode cX4_mays 25 = .ok (.iaload, 1) := by decide +kernel
theorem dX4_mays_26 : decode cX4_mays 26 = .ok (.aload_n 0, 1) := by decide +kernel
theorem dX4_mays_27 : decode cX4_mays 27 = .ok (.getfield 26, 3) := by decide +kernel
theorem dX4_mays_30 : decode cX4_mays 30 = .ok (.iload_n 3, 1) := by decide +kernel
theorem dX4_mays_31 : decode cX4_mays 31 = .ok (.iaload, 1) := by decide +kernel
theorem dX4_mays_32 : decode cX4_mays 32 = .ok (.if_icmp .ge 37, 3) := by decide +kernel
theorem dX4_mays_35 : decode cX4_mays 35 = .ok (.aload_n 0, 1) := by decide +kernel
theorem dX4_mays_36 : decode cX4_mays 36 = .ok (.getfield 38, 3) := by decide +kernel
theorem dX4_mays_39 : decode cX4_mays 39 = .ok (.iload_n 3, 1) := by decide +kernel
theorem dX4_mays_40 : decode cX4_mays 40 = .ok (.iaload, 1) := by decide +kernel
theorem dX4_mays_41 : decode cX4_mays 41 = .ok (.ifCond .eq 22, 3) := by decide +kernel
theorem dX4_mays_44 : decode cX4_mays 44 = .ok (.aload_n 0, 1) := by decide +kernel
theorem dX4_mays_45 : decode cX4_mays 45 = .ok (.getfield 38, 3) := by decide +kernel
theorem dX4_mays_48 : decode cX4_mays 48 = .ok (.iload_n 3, 1) := by decide +kernel
theorem dX4_mays_49 : decode cX4_mays 49 = .ok (.iaload, 1) := by decide +kernel
theorem dX4_mays_50 : decode cX4_mays 50 = .ok (.iconst 2, 1) := by decide +kernel
theorem dX4_mays_51 : decode cX4_mays 51 = .ok (.if_icmp .ne 18, 3) := by decide +kernel
theorem dX4_mays_54 : decode cX4_mays 54 = .ok (.aload_n 0, 1) := by decide +kernel
theorem dX4_mays_55 : decode cX4_mays 55 = .ok (.getfield 41, 3) := by decide +kernel
theorem dX4_mays_58 : decode cX4_mays 58 = .ok (.iload_n 3, 1) := by decide +kernel
theorem dX4_mays_59 : decode cX4_mays 59 = .ok (.iaload, 1) := by decide +kernel
theorem dX4_mays_60 : decode cX4_mays 60 = .ok (.ifCond .ne 9, 3) := by decide +kernel
theorem dX4_mays_63 : decode cX4_mays 63 = .ok (.iload_n 2, 1) := by decide +kernel
theorem dX4_mays_64 : decode cX4_mays 64 = .ok (.iconst 1, 1) := by decide +kernel
theorem dX4_mays_65 : decode cX4_mays 65 = .ok (.iload_n 3, 1) := by decide +kernel
theorem dX4_mays_66 : decode cX4_mays 66 = .ok (.ishl, 1) := by decide +kernel
theorem dX4_mays_67 : decode cX4_mays 67 = .ok (.ior, 1) := by decide +kernel
theorem dX4_mays_68 : decode cX4_mays 68 = .ok (.istore_n 2, 1) := by decide +kernel
theorem dX4_mays_69 : decode cX4_mays 69 = .ok (.iinc 3 1, 3) := by decide +kernel
theorem dX4_mays_72 : decode cX4_mays 72 = .ok (.goto (-68), 3) := by decide +kernel
theorem dX4_mays_75 : decode cX4_mays 75 = .ok (.iload_n 2, 1) := by decide +kernel
theorem dX4_mays_76 : decode cX4_mays 76 = .ok (.ireturn, 1) := by decide +kernel
theorem dX4_fewest_0 : decode cX4_fewest 0 = .ok (.iconst (-1), 1) := by decide +kernel
theorem dX4_fewest_1 : decode cX4_fewest 1 = .ok (.istore_n 2, 1) := by decide +kernel
theorem dX4_fewest_2 : decode cX4_fewest 2 = .ok (.iconst 0, 1) := by decide +kernel
theorem dX4_fewest_3 : decode cX4_fewest 3 = .ok (.istore_n 3, 1) := by decide +kernel
theorem dX4_fewest_4 : decode cX4_fewest 4 = .ok (.iload_n 3, 1) := by decide +kernel
theorem dX4_fewest_5 : decode cX4_fewest 5 = .ok (.aload_n 0, 1) := by decide +kernel
theorem dX4_fewest_6 : decode cX4_fewest 6 = .ok (.getfield 114, 3) := by decide +kernel
theorem dX4_fewest_9 : decode cX4_fewest 9 = .ok (.if_icmp .ge 53, 3) := by decide +kernel
theorem dX4_fewest_12 : decode cX4_fewest 12 = .ok (.iload_n 1, 1) := by decide +kernel
theorem dX4_fewest_13 : decode cX4_fewest 13 = .ok (.iload_n 3, 1) := by decide +kernel
theorem dX4_fewest_14 : decode cX4_fewest 14 = .ok (.ishr, 1) := by decide +kernel
theorem dX4_fewest_15 : decode cX4_fewest 15 = .ok (.iconst 1, 1) := by decide +kernel
theorem dX4_fewest_16 : decode cX4_fewest 16 = .ok (.iand, 1) := by decide +kernel
theorem dX4_fewest_17 : decode cX4_fewest 17 = .ok (.iconst 1, 1) := by decide +kernel
theorem dX4_fewest_18 : decode cX4_fewest 18 = .ok (.if_icmp .ne 38, 3) := by decide +kernel
theorem dX4_fewest_21 : decode cX4_fewest 21 = .ok (.iload_n 2, 1) := by decide +kernel
theorem dX4_fewest_22 : decode cX4_fewest 22 = .ok (.ifCond .lt 32, 3) := by decide +kernel
theorem dX4_fewest_25 : decode cX4_fewest 25 = .ok (.aload_n 0, 1) := by decide +kernel
theorem dX4_fewest_26 : decode cX4_fewest 26 = .ok (.getfield 41, 3) := by decide +kernel
theorem dX4_fewest_29 : decode cX4_fewest 29 = .ok (.iload_n 3, 1) := by decide +kernel
theorem dX4_fewest_30 : decode cX4_fewest 30 = .ok (.iaload, 1) := by decide +kernel
theorem dX4_fewest_31 : decode cX4_fewest 31 = .ok (.aload_n 0, 1) := by decide +kernel
theorem dX4_fewest_32 : decode cX4_fewest 32 = .ok (.getfield 20, 3) := by decide +kernel
theorem dX4_fewest_35 : decode cX4_fewest 35 = .ok (.iload_n 2, 1) := by decide +kernel
theorem dX4_fewest_36 : decode cX4_fewest 36 = .ok (.iaload, 1) := by decide +kernel
theorem dX4_fewest_37 : decode cX4_fewest 37 = .ok (.imul, 1) := by decide +kernel
theorem dX4_fewest_38 : decode cX4_fewest 38 = .ok (.aload_n 0, 1) := by decide +kernel
theorem dX4_fewest_39 : decode cX4_fewest 39 = .ok (.getfield 41, 3) := by decide +kernel
theorem dX4_fewest_42 : decode cX4_fewest 42 = .ok (.iload_n 2, 1) := by decide +kernel
theorem dX4_fewest_43 : decode cX4_fewest 43 = .ok (.iaload, 1) := by decide +kernel
theorem dX4_fewest_44 : decode cX4_fewest 44 = .ok (.aload_n 0, 1) := by decide +kernel
theorem dX4_fewest_45 : decode cX4_fewest 45 = .ok (.getfield 20, 3) := by decide +kernel
theorem dX4_fewest_48 : decode cX4_fewest 48 = .ok (.iload_n 3, 1) := by decide +kernel
theorem dX4_fewest_49 : decode cX4_fewest 49 = .ok (.iaload, 1) := by decide +kernel
theorem dX4_fewest_50 : decode cX4_fewest 50 = .ok (.imul, 1) := by decide +kernel
theorem dX4_fewest_51 : decode cX4_fewest 51 = .ok (.if_icmp .ge 5, 3) := by decide +kernel
theorem dX4_fewest_54 : decode cX4_fewest 54 = .ok (.iload_n 3, 1) := by decide +kernel
theorem dX4_fewest_55 : decode cX4_fewest 55 = .ok (.istore_n 2, 1) := by decide +kernel
theorem dX4_fewest_56 : decode cX4_fewest 56 = .ok (.iinc 3 1, 3) := by decide +kernel
theorem dX4_fewest_59 : decode cX4_fewest 59 = .ok (.goto (-55), 3) := by decide +kernel
theorem dX4_fewest_62 : decode cX4_fewest 62 = .ok (.iload_n 2, 1) := by decide +kernel
theorem dX4_fewest_63 : decode cX4_fewest 63 = .ok (.ireturn, 1) := by decide +kernel
theorem dX4_markOf_0 : decode cX4_markOf 0 = .ok (.ldc 142, 2) := by decide +kernel
theorem dX4_markOf_2 : decode cX4_markOf 2 = .ok (.iconst 4, 1) := by decide +kernel
theorem dX4_markOf_3 : decode cX4_markOf 3 = .ok (.iload_n 0, 1) := by decide +kernel
theorem dX4_markOf_4 : decode cX4_markOf 4 = .ok (.imul, 1) := by decide +kernel
theorem dX4_markOf_5 : decode cX4_markOf 5 = .ok (.iload_n 1, 1) := by decide +kernel
theorem dX4_markOf_6 : decode cX4_markOf 6 = .ok (.iadd, 1) := by decide +kernel
theorem dX4_markOf_7 : decode cX4_markOf 7 = .ok (.iconst 1, 1) := by decide +kernel
theorem dX4_markOf_8 : decode cX4_markOf 8 = .ok (.iadd, 1) := by decide +kernel
theorem dX4_markOf_9 : decode cX4_markOf 9 = .ok (.imul, 1) := by decide +kernel
theorem dX4_markOf_10 : decode cX4_markOf 10 = .ok (.ldc 143, 2) := by decide +kernel
theorem dX4_markOf_12 : decode cX4_markOf 12 = .ok (.irem, 1) := by decide +kernel
theorem dX4_markOf_13 : decode cX4_markOf 13 = .ok (.ireturn, 1) := by decide +kernel
set_option maxRecDepth 20000 in
theorem ggX4_onRing_X4_markOf : GoodIn wsX4_onRing wsX4_markOf := goodIn_r _ [6, 7, 1] (by decide +kernel) (by decide +kernel)
set_option maxRecDepth 20000 in
theorem gX4_onRing_X4_markOf : GoodIn wsX4_onRing (va_wsS RX4 144 yX4_markOf wsX4_markOf) := goodIn_app (goodIn_of _ (by decide +kernel)) ggX4_onRing_X4_markOf
theorem dX4_onRing_0 : decode cX4_onRing 0 = .ok (.iconst (-1), 1) := by decide +kernel
theorem dX4_onRing_1 : decode cX4_onRing 1 = .ok (.istore_n 3, 1) := by decide +kernel
theorem dX4_onRing_2 : decode cX4_onRing 2 = .ok (.ldc 143, 2) := by decide +kernel
theorem dX4_onRing_4 : decode cX4_onRing 4 = .ok (.istore 4, 2) := by decide +kernel
theorem dX4_onRing_6 : decode cX4_onRing 6 = .ok (.iconst 0, 1) := by decide +kernel
theorem dX4_onRing_7 : decode cX4_onRing 7 = .ok (.istore 5, 2) := by decide +kernel
theorem dX4_onRing_9 : decode cX4_onRing 9 = .ok (.iload 5, 2) := by decide +kernel
theorem dX4_onRing_11 : decode cX4_onRing 11 = .ok (.aload_n 0, 1) := by decide +kernel
theorem dX4_onRing_12 : decode cX4_onRing 12 = .ok (.getfield 114, 3) := by decide +kernel
theorem dX4_onRing_15 : decode cX4_onRing 15 = .ok (.if_icmp .ge 68, 3) := by decide +kernel
theorem dX4_onRing_18 : decode cX4_onRing 18 = .ok (.iconst 0, 1) := by decide +kernel
theorem dX4_onRing_19 : decode cX4_onRing 19 = .ok (.istore 6, 2) := by decide +kernel
theorem dX4_onRing_21 : decode cX4_onRing 21 = .ok (.iload 6, 2) := by decide +kernel
theorem dX4_onRing_23 : decode cX4_onRing 23 = .ok (.iconst 4, 1) := by decide +kernel
theorem dX4_onRing_24 : decode cX4_onRing 24 = .ok (.if_icmp .ge 53, 3) := by decide +kernel
theorem dX4_onRing_27 : decode cX4_onRing 27 = .ok (.iload_n 1, 1) := by decide +kernel
theorem dX4_onRing_28 : decode cX4_onRing 28 = .ok (.iload 5, 2) := by decide +kernel
theorem dX4_onRing_30 : decode cX4_onRing 30 = .ok (.ishr, 1) := by decide +kernel
theorem dX4_onRing_31 : decode cX4_onRing 31 = .ok (.iconst 1, 1) := by decide +kernel
theorem dX4_onRing_32 : decode cX4_onRing 32 = .ok (.iand, 1) := by decide +kernel
theorem dX4_onRing_33 : decode cX4_onRing 33 = .ok (.iconst 1, 1) := by decide +kernel
theorem dX4_onRing_34 : decode cX4_onRing 34 = .ok (.if_icmp .ne 43, 3) := by decide +kernel
theorem dX4_onRing_37 : decode cX4_onRing 37 = .ok (.iload 5, 2) := by decide +kernel
theorem dX4_onRing_39 : decode cX4_onRing 39 = .ok (.iload 6, 2) := by decide +kernel
theorem dX4_onRing_41 : decode cX4_onRing 41 = .ok (.invokestatic 144, 3) := by decide +kernel
theorem dX4_onRing_44 : decode cX4_onRing 44 = .ok (.iload_n 2, 1) := by decide +kernel
theorem dX4_onRing_45 : decode cX4_onRing 45 = .ok (.isub, 1) := by decide +kernel
theorem dX4_onRing_46 : decode cX4_onRing 46 = .ok (.ldc 143, 2) := by decide +kernel
theorem dX4_onRing_48 : decode cX4_onRing 48 = .ok (.iadd, 1) := by decide +kernel
theorem dX4_onRing_49 : decode cX4_onRing 49 = .ok (.ldc 143, 2) := by decide +kernel
theorem dX4_onRing_51 : decode cX4_onRing 51 = .ok (.irem, 1) := by decide +kernel
theorem dX4_onRing_52 : decode cX4_onRing 52 = .ok (.istore 7, 2) := by decide +kernel
theorem dX4_onRing_54 : decode cX4_onRing 54 = .ok (.iload 7, 2) := by decide +kernel
theorem dX4_onRing_56 : decode cX4_onRing 56 = .ok (.iload 4, 2) := by decide +kernel
theorem dX4_onRing_58 : decode cX4_onRing 58 = .ok (.if_icmp .lt 6, 3) := by decide +kernel
theorem dX4_onRing_61 : decode cX4_onRing 61 = .ok (.goto 10, 3) := by decide +kernel
theorem dX4_onRing_64 : decode cX4_onRing 64 = .ok (.iload 7, 2) := by decide +kernel
theorem dX4_onRing_66 : decode cX4_onRing 66 = .ok (.istore 4, 2) := by decide +kernel
theorem dX4_onRing_68 : decode cX4_onRing 68 = .ok (.iload 5, 2) := by decide +kernel
theorem dX4_onRing_70 : decode cX4_onRing 70 = .ok (.istore_n 3, 1) := by decide +kernel
theorem dX4_onRing_71 : decode cX4_onRing 71 = .ok (.iinc 6 1, 3) := by decide +kernel
theorem dX4_onRing_74 : decode cX4_onRing 74 = .ok (.goto (-53), 3) := by decide +kernel
theorem dX4_onRing_77 : decode cX4_onRing 77 = .ok (.iinc 5 1, 3) := by decide +kernel
theorem dX4_onRing_80 : decode cX4_onRing 80 = .ok (.goto (-71), 3) := by decide +kernel
theorem dX4_onRing_83 : decode cX4_onRing 83 = .ok (.iload_n 3, 1) := by decide +kernel
theorem dX4_onRing_84 : decode cX4_onRing 84 = .ok (.ireturn, 1) := by decide +kernel
set_option maxRecDepth 20000 in
theorem ggX4_near_X4_fewest : GoodIn wsX4_near wsX4_fewest := goodIn_r _ [7, 1, 8, 9, 10, 11, 12, 13, 14, 15, 16, 17, 18, 19, 20, 21, 22, 23, 24, 25, 26, 27, 28, 29, 30, 31, 32, 33, 34, 35, 36, 37, 38, 39, 40, 41, 42, 43, 44, 45, 46, 47, 48, 49, 50, 51, 52] (by decide +kernel) (by decide +kernel)
set_option maxRecDepth 20000 in
theorem gX4_near_X4_fewest : GoodIn wsX4_near (wsV RX4 147 RX4 yX4_fewest wsX4_fewest) := goodIn_app (goodIn_of _ (by decide +kernel)) ggX4_near_X4_fewest
theorem dX4_near_0 : decode cX4_near 0 = .ok (.iconst 0, 1) := by decide +kernel
theorem dX4_near_1 : decode cX4_near 1 = .ok (.istore_n 3, 1) := by decide +kernel
theorem dX4_near_2 : decode cX4_near 2 = .ok (.iconst 0, 1) := by decide +kernel
theorem dX4_near_3 : decode cX4_near 3 = .ok (.istore 4, 2) := by decide +kernel
theorem dX4_near_5 : decode cX4_near 5 = .ok (.iload 4, 2) := by decide +kernel
theorem dX4_near_7 : decode cX4_near 7 = .ok (.aload_n 0, 1) := by decide +kernel
theorem dX4_near_8 : decode cX4_near 8 = .ok (.getfield 114, 3) := by decide +kernel
theorem dX4_near_11 : decode cX4_near 11 = .ok (.if_icmp .ge 39, 3) := by decide +kernel
theorem dX4_near_14 : decode cX4_near 14 = .ok (.iload_n 1, 1) := by decide +kernel
theorem dX4_near_15 : decode cX4_near 15 = .ok (.iload 4, 2) := by decide +kernel
theorem dX4_near_17 : decode cX4_near 17 = .ok (.ishr, 1) := by decide +kernel
theorem dX4_near_18 : decode cX4_near 18 = .ok (.iconst 1, 1) := by decide +kernel
theorem dX4_near_19 : decode cX4_near 19 = .ok (.iand, 1) := by decide +kernel
theorem dX4_near_20 : decode cX4_near 20 = .ok (.iconst 1, 1) := by decide +kernel
theorem dX4_near_21 : decode cX4_near 21 = .ok (.if_icmp .ne 23, 3) := by decide +kernel
theorem dX4_near_24 : decode cX4_near 24 = .ok (.aload_n 0, 1) := by decide +kernel
theorem dX4_near_25 : decode cX4_near 25 = .ok (.getfield 23, 3) := by decide +kernel
theorem dX4_near_28 : decode cX4_near 28 = .ok (.iload 4, 2) := by decide +kernel
theorem dX4_near_30 : decode cX4_near 30 = .ok (.iaload, 1) := by decide +kernel
theorem dX4_near_31 : decode cX4_near 31 = .ok (.iload_n 2, 1) := by decide +kernel
theorem dX4_near_32 : decode cX4_near 32 = .ok (.iconst 4, 1) := by decide +kernel
theorem dX4_near_33 : decode cX4_near 33 = .ok (.irem, 1) := by decide +kernel
theorem dX4_near_34 : decode cX4_near 34 = .ok (.if_icmp .ne 10, 3) := by decide +kernel
theorem dX4_near_37 : decode cX4_near 37 = .ok (.iload_n 3, 1) := by decide +kernel
theorem dX4_near_38 : decode cX4_near 38 = .ok (.iconst 1, 1) := by decide +kernel
theorem dX4_near_39 : decode cX4_near 39 = .ok (.iload 4, 2) := by decide +kernel
theorem dX4_near_41 : decode cX4_near 41 = .ok (.ishl, 1) := by decide +kernel
theorem dX4_near_42 : decode cX4_near 42 = .ok (.ior, 1) := by decide +kernel
theorem dX4_near_43 : decode cX4_near 43 = .ok (.istore_n 3, 1) := by decide +kernel
theorem dX4_near_44 : decode cX4_near 44 = .ok (.iinc 4 1, 3) := by decide +kernel
theorem dX4_near_47 : decode cX4_near 47 = .ok (.goto (-42), 3) := by decide +kernel
theorem dX4_near_50 : decode cX4_near 50 = .ok (.aload_n 0, 1) := by decide +kernel
theorem dX4_near_51 : decode cX4_near 51 = .ok (.iload_n 3, 1) := by decide +kernel
theorem dX4_near_52 : decode cX4_near 52 = .ok (.ifCond .eq 7, 3) := by decide +kernel
theorem dX4_near_55 : decode cX4_near 55 = .ok (.iload_n 3, 1) := by decide +kernel
theorem dX4_near_56 : decode cX4_near 56 = .ok (.goto 4, 3) := by decide +kernel
theorem dX4_near_59 : decode cX4_near 59 = .ok (.iload_n 1, 1) := by decide +kernel
theorem dX4_near_60 : decode cX4_near 60 = .ok (.invokevirtual 147, 3) := by decide +kernel
theorem dX4_near_63 : decode cX4_near 63 = .ok (.ireturn, 1) := by decide +kernel
theorem dX4_byTurns_0 : decode cX4_byTurns 0 = .ok (.iconst (-1), 1) := by decide +kernel
theorem dX4_byTurns_1 : decode cX4_byTurns 1 = .ok (.istore_n 3, 1) := by decide +kernel
theorem dX4_byTurns_2 : decode cX4_byTurns 2 = .ok (.iconst 0, 1) := by decide +kernel
theorem dX4_byTurns_3 : decode cX4_byTurns 3 = .ok (.istore 4, 2) := by decide +kernel
theorem dX4_byTurns_5 : decode cX4_byTurns 5 = .ok (.iconst 0, 1) := by decide +kernel
theorem dX4_byTurns_6 : decode cX4_byTurns 6 = .ok (.istore 5, 2) := by decide +kernel
theorem dX4_byTurns_8 : decode cX4_byTurns 8 = .ok (.iload 5, 2) := by decide +kernel
theorem dX4_byTurns_10 : decode cX4_byTurns 10 = .ok (.aload_n 0, 1) := by decide +kernel
theorem dX4_byTurns_11 : decode cX4_byTurns 11 = .ok (.getfield 114, 3) := by decide +kernel
theorem dX4_byTurns_14 : decode cX4_byTurns 14 = .ok (.if_icmp .ge 71, 3) := by decide +kernel
theorem dX4_byTurns_17 : decode cX4_byTurns 17 = .ok (.iload_n 1, 1) := by decide +kernel
theorem dX4_byTurns_18 : decode cX4_byTurns 18 = .ok (.iload 5, 2) := by decide +kernel
theorem dX4_byTurns_20 : decode cX4_byTurns 20 = .ok (.ishr, 1) := by decide +kernel
theorem dX4_byTurns_21 : decode cX4_byTurns 21 = .ok (.iconst 1, 1) := by decide +kernel
theorem dX4_byTurns_22 : decode cX4_byTurns 22 = .ok (.iand, 1) := by decide +kernel
theorem dX4_byTurns_23 : decode cX4_byTurns 23 = .ok (.ifCond .ne 6, 3) := by decide +kernel
theorem dX4_byTurns_26 : decode cX4_byTurns 26 = .ok (.goto 53, 3) := by decide +kernel
theorem dX4_byTurns_29 : decode cX4_byTurns 29 = .ok (.iload 4, 2) := by decide +kernel
theorem dX4_byTurns_31 : decode cX4_byTurns 31 = .ok (.aload_n 0, 1) := by decide +kernel
theorem dX4_byTurns_32 : decode cX4_byTurns 32 = .ok (.getfield 20, 3) := by decide +kernel
theorem dX4_byTurns_35 : decode cX4_byTurns 35 = .ok (.iload 5, 2) := by decide +kernel
theorem dX4_byTurns_37 : decode cX4_byTurns 37 = .ok (.iaload, 1) := by decide +kernel
theorem dX4_byTurns_38 : decode cX4_byTurns 38 = .ok (.iadd, 1) := by decide +kernel
theorem dX4_byTurns_39 : decode cX4_byTurns 39 = .ok (.istore 4, 2) := by decide +kernel
theorem dX4_byTurns_41 : decode cX4_byTurns 41 = .ok (.iload_n 3, 1) := by decide +kernel
theorem dX4_byTurns_42 : decode cX4_byTurns 42 = .ok (.ifCond .lt 34, 3) := by decide +kernel
theorem dX4_byTurns_45 : decode cX4_byTurns 45 = .ok (.aload_n 0, 1) := by decide +kernel
theorem dX4_byTurns_46 : decode cX4_byTurns 46 = .ok (.getfield 65, 3) := by decide +kernel
theorem dX4_byTurns_49 : decode cX4_byTurns 49 = .ok (.iload 5, 2) := by decide +kernel
theorem dX4_byTurns_51 : decode cX4_byTurns 51 = .ok (.iaload, 1) := by decide +kernel
theorem dX4_byTurns_52 : decode cX4_byTurns 52 = .ok (.aload_n 0, 1) := by decide +kernel
theorem dX4_byTurns_53 : decode cX4_byTurns 53 = .ok (.getfield 20, 3) := by decide +kernel
theorem dX4_byTurns_56 : decode cX4_byTurns 56 = .ok (.iload 5, 2) := by decide +kernel
theorem dX4_byTurns_58 : decode cX4_byTurns 58 = .ok (.iaload, 1) := by decide +kernel
theorem dX4_byTurns_59 : decode cX4_byTurns 59 = .ok (.iadd, 1) := by decide +kernel
theorem dX4_byTurns_60 : decode cX4_byTurns 60 = .ok (.aload_n 0, 1) := by decide +kernel
theorem dX4_byTurns_61 : decode cX4_byTurns 61 = .ok (.getfield 65, 3) := by decide +kernel
theorem dX4_byTurns_64 : decode cX4_byTurns 64 = .ok (.iload_n 3, 1) := by decide +kernel
theorem dX4_byTurns_65 : decode cX4_byTurns 65 = .ok (.iaload, 1) := by decide +kernel
theorem dX4_byTurns_66 : decode cX4_byTurns 66 = .ok (.aload_n 0, 1) := by decide +kernel
theorem dX4_byTurns_67 : decode cX4_byTurns 67 = .ok (.getfield 20, 3) := by decide +kernel
theorem dX4_byTurns_70 : decode cX4_byTurns 70 = .ok (.iload_n 3, 1) := by decide +kernel
theorem dX4_byTurns_71 : decode cX4_byTurns 71 = .ok (.iaload, 1) := by decide +kernel
theorem dX4_byTurns_72 : decode cX4_byTurns 72 = .ok (.iadd, 1) := by decide +kernel
theorem dX4_byTurns_73 : decode cX4_byTurns 73 = .ok (.if_icmp .le 6, 3) := by decide +kernel
theorem dX4_byTurns_76 : decode cX4_byTurns 76 = .ok (.iload 5, 2) := by decide +kernel
theorem dX4_byTurns_78 : decode cX4_byTurns 78 = .ok (.istore_n 3, 1) := by decide +kernel
theorem dX4_byTurns_79 : decode cX4_byTurns 79 = .ok (.iinc 5 1, 3) := by decide +kernel
theorem dX4_byTurns_82 : decode cX4_byTurns 82 = .ok (.goto (-74), 3) := by decide +kernel
theorem dX4_byTurns_85 : decode cX4_byTurns 85 = .ok (.iconst 0, 1) := by decide +kernel
theorem dX4_byTurns_86 : decode cX4_byTurns 86 = .ok (.istore 5, 2) := by decide +kernel
theorem dX4_byTurns_88 : decode cX4_byTurns 88 = .ok (.iload 5, 2) := by decide +kernel
theorem dX4_byTurns_90 : decode cX4_byTurns 90 = .ok (.aload_n 0, 1) := by decide +kernel
theorem dX4_byTurns_91 : decode cX4_byTurns 91 = .ok (.getfield 114, 3) := by decide +kernel
theorem dX4_byTurns_94 : decode cX4_byTurns 94 = .ok (.if_icmp .ge 44, 3) := by decide +kernel
theorem dX4_byTurns_97 : decode cX4_byTurns 97 = .ok (.iload_n 2, 1) := by decide +kernel
theorem dX4_byTurns_98 : decode cX4_byTurns 98 = .ok (.ifCond .eq 40, 3) := by decide +kernel
theorem dX4_byTurns_101 : decode cX4_byTurns 101 = .ok (.aload_n 0, 1) := by decide +kernel
theorem dX4_byTurns_102 : decode cX4_byTurns 102 = .ok (.getfield 65, 3) := by decide +kernel
theorem dX4_byTurns_105 : decode cX4_byTurns 105 = .ok (.iload 5, 2) := by decide +kernel
theorem dX4_byTurns_107 : decode cX4_byTurns 107 = .ok (.dup2, 1) := by decide +kernel
theorem dX4_byTurns_108 : decode cX4_byTurns 108 = .ok (.iaload, 1) := by decide +kernel
theorem dX4_byTurns_109 : decode cX4_byTurns 109 = .ok (.iload_n 1, 1) := by decide +kernel
theorem dX4_byTurns_110 : decode cX4_byTurns 110 = .ok (.iload 5, 2) := by decide +kernel
theorem dX4_byTurns_112 : decode cX4_byTurns 112 = .ok (.ishr, 1) := by decide +kernel
theorem dX4_byTurns_113 : decode cX4_byTurns 113 = .ok (.iconst 1, 1) := by decide +kernel
theorem dX4_byTurns_114 : decode cX4_byTurns 114 = .ok (.iand, 1) := by decide +kernel
theorem dX4_byTurns_115 : decode cX4_byTurns 115 = .ok (.iconst 1, 1) := by decide +kernel
theorem dX4_byTurns_116 : decode cX4_byTurns 116 = .ok (.if_icmp .ne 13, 3) := by decide +kernel
theorem dX4_byTurns_119 : decode cX4_byTurns 119 = .ok (.aload_n 0, 1) := by decide +kernel
theorem dX4_byTurns_120 : decode cX4_byTurns 120 = .ok (.getfield 20, 3) := by decide +kernel
theorem dX4_byTurns_123 : decode cX4_byTurns 123 = .ok (.iload 5, 2) := by decide +kernel
theorem dX4_byTurns_125 : decode cX4_byTurns 125 = .ok (.iaload, 1) := by decide +kernel
theorem dX4_byTurns_126 : decode cX4_byTurns 126 = .ok (.goto 4, 3) := by decide +kernel
theorem dX4_byTurns_129 : decode cX4_byTurns 129 = .ok (.iconst 0, 1) := by decide +kernel
theorem dX4_byTurns_130 : decode cX4_byTurns 130 = .ok (.iadd, 1) := by decide +kernel
theorem dX4_byTurns_131 : decode cX4_byTurns 131 = .ok (.iastore, 1) := by decide +kernel
theorem dX4_byTurns_132 : decode cX4_byTurns 132 = .ok (.iinc 5 1, 3) := by decide +kernel
theorem dX4_byTurns_135 : decode cX4_byTurns 135 = .ok (.goto (-47), 3) := by decide +kernel
theorem dX4_byTurns_138 : decode cX4_byTurns 138 = .ok (.iload_n 2, 1) := by decide +kernel
theorem dX4_byTurns_139 : decode cX4_byTurns 139 = .ok (.ifCond .eq 14, 3) := by decide +kernel
theorem dX4_byTurns_142 : decode cX4_byTurns 142 = .ok (.aload_n 0, 1) := by decide +kernel
theorem dX4_byTurns_143 : decode cX4_byTurns 143 = .ok (.getfield 65, 3) := by decide +kernel
theorem dX4_byTurns_146 : decode cX4_byTurns 146 = .ok (.iload_n 3, 1) := by decide +kernel
theorem dX4_byTurns_147 : decode cX4_byTurns 147 = .ok (.dup2, 1) := by decide +kernel
theorem dX4_byTurns_148 : decode cX4_byTurns 148 = .ok (.iaload, 1) := by decide +kernel
theorem dX4_byTurns_149 : decode cX4_byTurns 149 = .ok (.iload 4, 2) := by decide +kernel
theorem dX4_byTurns_151 : decode cX4_byTurns 151 = .ok (.isub, 1) := by decide +kernel
theorem dX4_byTurns_152 : decode cX4_byTurns 152 = .ok (.iastore, 1) := by decide +kernel
theorem dX4_byTurns_153 : decode cX4_byTurns 153 = .ok (.iload_n 3, 1) := by decide +kernel
theorem dX4_byTurns_154 : decode cX4_byTurns 154 = .ok (.ireturn, 1) := by decide +kernel
set_option maxRecDepth 20000 in
theorem ggX4_picked_X4_byTurns : GoodIn wsX4_picked wsX4_byTurns := goodIn_r _ [6, 7, 8, 9, 29, 30, 31, 32, 33, 34, 35, 36, 37, 38, 39, 40, 41, 42, 43, 44, 45, 46, 47, 48, 49, 50, 51, 52, 53, 54, 55, 56, 57, 58, 59, 60, 61, 62, 63, 64, 65, 66, 67, 68, 69, 70, 71] (by decide +kernel) (by decide +kernel)
set_option maxRecDepth 20000 in
theorem gX4_picked_X4_byTurns : GoodIn wsX4_picked (wsV RX4 150 RX4 yX4_byTurns wsX4_byTurns) := goodIn_app (goodIn_of _ (by decide +kernel)) ggX4_picked_X4_byTurns
set_option maxRecDepth 20000 in
theorem ggX4_picked_X4_fewest : GoodIn wsX4_picked wsX4_fewest := goodIn_r _ [13, 7, 14, 8, 29, 30, 31, 32, 33, 34, 35, 36, 37, 38, 39, 40, 41, 42, 43, 44, 45, 46, 47, 48, 49, 50, 51, 52, 53, 54, 55, 56, 57, 58, 59, 60, 61, 62, 63, 64, 65, 66, 67, 68, 69, 70, 71] (by decide +kernel) (by decide +kernel)
set_option maxRecDepth 20000 in
theorem gX4_picked_X4_fewest : GoodIn wsX4_picked (wsV RX4 147 RX4 yX4_fewest wsX4_fewest) := goodIn_app (goodIn_of _ (by decide +kernel)) ggX4_picked_X4_fewest
set_option maxRecDepth 20000 in
theorem ggX4_picked_X4_onRing : GoodIn wsX4_picked wsX4_onRing := goodIn_r _ [18, 19, 7, 20, 21, 5, 22, 23, 29, 30, 31, 32, 33, 34, 35, 36, 37, 38, 39, 40, 41, 42, 43, 44, 45, 46, 47, 48, 49, 50, 51, 52, 53, 54, 55, 56, 57, 58, 59, 60, 61, 62, 63, 64, 65, 66, 67, 68, 69, 70, 71] (by decide +kernel) (by decide +kernel)
set_option maxRecDepth 20000 in
theorem gX4_picked_X4_onRing : GoodIn wsX4_picked (wsV RX4 154 RX4 yX4_onRing wsX4_onRing) := goodIn_app (goodIn_of _ (by decide +kernel)) ggX4_picked_X4_onRing
set_option maxRecDepth 20000 in
theorem ggX4_picked_X4_near : GoodIn wsX4_picked wsX4_near := goodIn_r _ [27, 7, 28, 10, 11, 12, 5, 13, 14, 8, 29, 30, 31, 32, 33, 34, 35, 36, 37, 38, 39, 40, 41, 42, 43, 44, 45, 46, 47, 48, 49, 50, 51, 52, 53, 54, 55, 56, 57, 58, 59, 60, 61, 62, 63, 64, 65, 66, 67, 68, 69, 70, 71] (by decide +kernel) (by decide +kernel)
set_option maxRecDepth 20000 in
theorem gX4_picked_X4_near : GoodIn wsX4_picked (wsV RX4 157 RX4 yX4_near wsX4_near) := goodIn_app (goodIn_of _ (by decide +kernel)) ggX4_picked_X4_near
theorem dX4_picked_0 : decode cX4_picked 0 = .ok (.aload_n 0, 1) := by decide +kernel
theorem dX4_picked_1 : decode cX4_picked 1 = .ok (.getfield 136, 3) := by decide +kernel
theorem dX4_picked_4 : decode cX4_picked 4 = .ok (.tableswitch 48 0 2 #[28, 35, 41], 28) := by decide +kernel
theorem dX4_picked_32 : decode cX4_picked 32 = .ok (.aload_n 0, 1) := by decide +kernel
theorem dX4_picked_33 : decode cX4_picked 33 = .ok (.iload_n 1, 1) := by decide +kernel
theorem dX4_picked_34 : decode cX4_picked 34 = .ok (.iload_n 3, 1) := by decide +kernel
theorem dX4_picked_35 : decode cX4_picked 35 = .ok (.invokevirtual 150, 3) := by decide +kernel
theorem dX4_picked_38 : decode cX4_picked 38 = .ok (.ireturn, 1) := by decide +kernel
theorem dX4_picked_39 : decode cX4_picked 39 = .ok (.aload_n 0, 1) := by decide +kernel
theorem dX4_picked_40 : decode cX4_picked 40 = .ok (.iload_n 1, 1) := by decide +kernel
theorem dX4_picked_41 : decode cX4_picked 41 = .ok (.invokevirtual 147, 3) := by decide +kernel
theorem dX4_picked_44 : decode cX4_picked 44 = .ok (.ireturn, 1) := by decide +kernel
theorem dX4_picked_45 : decode cX4_picked 45 = .ok (.aload_n 0, 1) := by decide +kernel
theorem dX4_picked_46 : decode cX4_picked 46 = .ok (.iload_n 1, 1) := by decide +kernel
theorem dX4_picked_47 : decode cX4_picked 47 = .ok (.iload_n 2, 1) := by decide +kernel
theorem dX4_picked_48 : decode cX4_picked 48 = .ok (.invokevirtual 154, 3) := by decide +kernel
theorem dX4_picked_51 : decode cX4_picked 51 = .ok (.ireturn, 1) := by decide +kernel
theorem dX4_picked_52 : decode cX4_picked 52 = .ok (.aload_n 0, 1) := by decide +kernel
theorem dX4_picked_53 : decode cX4_picked 53 = .ok (.iload_n 1, 1) := by decide +kernel
theorem dX4_picked_54 : decode cX4_picked 54 = .ok (.iload_n 2, 1) := by decide +kernel
theorem dX4_picked_55 : decode cX4_picked 55 = .ok (.invokevirtual 157, 3) := by decide +kernel
theorem dX4_picked_58 : decode cX4_picked 58 = .ok (.ireturn, 1) := by decide +kernel
theorem dX4_ask_0 : decode cX4_ask 0 = .ok (.aload_n 0, 1) := by decide +kernel
theorem dX4_ask_1 : decode cX4_ask 1 = .ok (.getfield 44, 3) := by decide +kernel
theorem dX4_ask_4 : decode cX4_ask 4 = .ok (.iload_n 2, 1) := by decide +kernel
theorem dX4_ask_5 : decode cX4_ask 5 = .ok (.dup2, 1) := by decide +kernel
theorem dX4_ask_6 : decode cX4_ask 6 = .ok (.iaload, 1) := by decide +kernel
theorem dX4_ask_7 : decode cX4_ask 7 = .ok (.iconst 1, 1) := by decide +kernel
theorem dX4_ask_8 : decode cX4_ask 8 = .ok (.iadd, 1) := by decide +kernel
theorem dX4_ask_9 : decode cX4_ask 9 = .ok (.iastore, 1) := by decide +kernel
theorem dX4_ask_10 : decode cX4_ask 10 = .ok (.aload_n 0, 1) := by decide +kernel
theorem dX4_ask_11 : decode cX4_ask 11 = .ok (.dup, 1) := by decide +kernel
theorem dX4_ask_12 : decode cX4_ask 12 = .ok (.getfield 160, 3) := by decide +kernel
theorem dX4_ask_15 : decode cX4_ask 15 = .ok (.iconst 1, 1) := by decide +kernel
theorem dX4_ask_16 : decode cX4_ask 16 = .ok (.iadd, 1) := by decide +kernel
theorem dX4_ask_17 : decode cX4_ask 17 = .ok (.putfield 160, 3) := by decide +kernel
theorem dX4_ask_20 : decode cX4_ask 20 = .ok (.aload_n 0, 1) := by decide +kernel
theorem dX4_ask_21 : decode cX4_ask 21 = .ok (.getfield 41, 3) := by decide +kernel
theorem dX4_ask_24 : decode cX4_ask 24 = .ok (.iload_n 2, 1) := by decide +kernel
theorem dX4_ask_25 : decode cX4_ask 25 = .ok (.dup2, 1) := by decide +kernel
theorem dX4_ask_26 : decode cX4_ask 26 = .ok (.iaload, 1) := by decide +kernel
theorem dX4_ask_27 : decode cX4_ask 27 = .ok (.iconst 1, 1) := by decide +kernel
theorem dX4_ask_28 : decode cX4_ask 28 = .ok (.iadd, 1) := by decide +kernel
theorem dX4_ask_29 : decode cX4_ask 29 = .ok (.iastore, 1) := by decide +kernel
theorem dX4_ask_30 : decode cX4_ask 30 = .ok (.iconst 2, 1) := by decide +kernel
theorem dX4_ask_31 : decode cX4_ask 31 = .ok (.iload_n 1, 1) := by decide +kernel
theorem dX4_ask_32 : decode cX4_ask 32 = .ok (.imul, 1) := by decide +kernel
theorem dX4_ask_33 : decode cX4_ask 33 = .ok (.aload_n 0, 1) := by decide +kernel
theorem dX4_ask_34 : decode cX4_ask 34 = .ok (.getfield 80, 3) := by decide +kernel
theorem dX4_ask_37 : decode cX4_ask 37 = .ok (.iload_n 1, 1) := by decide +kernel
theorem dX4_ask_38 : decode cX4_ask 38 = .ok (.iaload, 1) := by decide +kernel
theorem dX4_ask_39 : decode cX4_ask 39 = .ok (.iadd, 1) := by decide +kernel
theorem dX4_ask_40 : decode cX4_ask 40 = .ok (.istore_n 3, 1) := by decide +kernel
theorem dX4_ask_41 : decode cX4_ask 41 = .ok (.aload_n 0, 1) := by decide +kernel
theorem dX4_ask_42 : decode cX4_ask 42 = .ok (.getfield 99, 3) := by decide +kernel
theorem dX4_ask_45 : decode cX4_ask 45 = .ok (.iload_n 3, 1) := by decide +kernel
theorem dX4_ask_46 : decode cX4_ask 46 = .ok (.iload_n 2, 1) := by decide +kernel
theorem dX4_ask_47 : decode cX4_ask 47 = .ok (.iastore, 1) := by decide +kernel
theorem dX4_ask_48 : decode cX4_ask 48 = .ok (.aload_n 0, 1) := by decide +kernel
theorem dX4_ask_49 : decode cX4_ask 49 = .ok (.getfield 102, 3) := by decide +kernel
theorem dX4_ask_52 : decode cX4_ask 52 = .ok (.iload_n 3, 1) := by decide +kernel
theorem dX4_ask_53 : decode cX4_ask 53 = .ok (.aload_n 0, 1) := by decide +kernel
theorem dX4_ask_54 : decode cX4_ask 54 = .ok (.getfield 163, 3) := by decide +kernel
theorem dX4_ask_57 : decode cX4_ask 57 = .ok (.iastore, 1) := by decide +kernel
theorem dX4_ask_58 : decode cX4_ask 58 = .ok (.aload_n 0, 1) := by decide +kernel
theorem dX4_ask_59 : decode cX4_ask 59 = .ok (.getfield 105, 3) := by decide +kernel
theorem dX4_ask_62 : decode cX4_ask 62 = .ok (.iload_n 3, 1) := by decide +kernel
theorem dX4_ask_63 : decode cX4_ask 63 = .ok (.aload_n 0, 1) := by decide +kernel
theorem dX4_ask_64 : decode cX4_ask 64 = .ok (.getfield 35, 3) := by decide +kernel
theorem dX4_ask_67 : decode cX4_ask 67 = .ok (.iload_n 2, 1) := by decide +kernel
theorem dX4_ask_68 : decode cX4_ask 68 = .ok (.iaload, 1) := by decide +kernel
theorem dX4_ask_69 : decode cX4_ask 69 = .ok (.iconst 1, 1) := by decide +kernel
theorem dX4_ask_70 : decode cX4_ask 70 = .ok (.if_icmp .ne 8, 3) := by decide +kernel
theorem dX4_ask_73 : decode cX4_ask 73 = .ok (.ldc 166, 2) := by decide +kernel
theorem dX4_ask_75 : decode cX4_ask 75 = .ok (.goto 14, 3) := by decide +kernel
theorem dX4_ask_78 : decode cX4_ask 78 = .ok (.aload_n 0, 1) := by decide +kernel
theorem dX4_ask_79 : decode cX4_ask 79 = .ok (.getfield 163, 3) := by decide +kernel
theorem dX4_ask_82 : decode cX4_ask 82 = .ok (.aload_n 0, 1) := by decide +kernel
theorem dX4_ask_83 : decode cX4_ask 83 = .ok (.getfield 29, 3) := by decide +kernel
theorem dX4_ask_86 : decode cX4_ask 86 = .ok (.iload_n 2, 1) := by decide +kernel
theorem dX4_ask_87 : decode cX4_ask 87 = .ok (.iaload, 1) := by decide +kernel
theorem dX4_ask_88 : decode cX4_ask 88 = .ok (.iadd, 1) := by decide +kernel
theorem dX4_ask_89 : decode cX4_ask 89 = .ok (.iastore, 1) := by decide +kernel
theorem dX4_ask_90 : decode cX4_ask 90 = .ok (.aload_n 0, 1) := by decide +kernel
theorem dX4_ask_91 : decode cX4_ask 91 = .ok (.getfield 108, 3) := by decide +kernel
theorem dX4_ask_94 : decode cX4_ask 94 = .ok (.iload_n 3, 1) := by decide +kernel
theorem dX4_ask_95 : decode cX4_ask 95 = .ok (.aload_n 0, 1) := by decide +kernel
theorem dX4_ask_96 : decode cX4_ask 96 = .ok (.getfield 32, 3) := by decide +kernel
theorem dX4_ask_99 : decode cX4_ask 99 = .ok (.iload_n 2, 1) := by decide +kernel
theorem dX4_ask_100 : decode cX4_ask 100 = .ok (.iaload, 1) := by decide +kernel
theorem dX4_ask_101 : decode cX4_ask 101 = .ok (.ifCond .le 23, 3) := by decide +kernel
theorem dX4_ask_104 : decode cX4_ask 104 = .ok (.aload_n 0, 1) := by decide +kernel
theorem dX4_ask_105 : decode cX4_ask 105 = .ok (.getfield 44, 3) := by decide +kernel
theorem dX4_ask_108 : decode cX4_ask 108 = .ok (.iload_n 2, 1) := by decide +kernel
theorem dX4_ask_109 : decode cX4_ask 109 = .ok (.iaload, 1) := by decide +kernel
theorem dX4_ask_110 : decode cX4_ask 110 = .ok (.aload_n 0, 1) := by decide +kernel
theorem dX4_ask_111 : decode cX4_ask 111 = .ok (.getfield 32, 3) := by decide +kernel
theorem dX4_ask_114 : decode cX4_ask 114 = .ok (.iload_n 2, 1) := by decide +kernel
theorem dX4_ask_115 : decode cX4_ask 115 = .ok (.iaload, 1) := by decide +kernel
theorem dX4_ask_116 : decode cX4_ask 116 = .ok (.irem, 1) := by decide +kernel
theorem dX4_ask_117 : decode cX4_ask 117 = .ok (.ifCond .ne 7, 3) := by decide +kernel
theorem dX4_ask_120 : decode cX4_ask 120 = .ok (.iconst 1, 1) := by decide +kernel
theorem dX4_ask_121 : decode cX4_ask 121 = .ok (.goto 4, 3) := by decide +kernel
theorem dX4_ask_124 : decode cX4_ask 124 = .ok (.iconst 0, 1) := by decide +kernel
theorem dX4_ask_125 : decode cX4_ask 125 = .ok (.bastore, 1) := by decide +kernel
theorem dX4_ask_126 : decode cX4_ask 126 = .ok (.aload_n 0, 1) := by decide +kernel
theorem dX4_ask_127 : decode cX4_ask 127 = .ok (.getfield 80, 3) := by decide +kernel
theorem dX4_ask_130 : decode cX4_ask 130 = .ok (.iload_n 1, 1) := by decide +kernel
theorem dX4_ask_131 : decode cX4_ask 131 = .ok (.dup2, 1) := by decide +kernel
theorem dX4_ask_132 : decode cX4_ask 132 = .ok (.iaload, 1) := by decide +kernel
theorem dX4_ask_133 : decode cX4_ask 133 = .ok (.iconst 1, 1) := by decide +kernel
theorem dX4_ask_134 : decode cX4_ask 134 = .ok (.iadd, 1) := by decide +kernel
theorem dX4_ask_135 : decode cX4_ask 135 = .ok (.iastore, 1) := by decide +kernel
theorem dX4_ask_136 : decode cX4_ask 136 = .ok (.aload_n 0, 1) := by decide +kernel
theorem dX4_ask_137 : decode cX4_ask 137 = .ok (.getfield 83, 3) := by decide +kernel
theorem dX4_ask_140 : decode cX4_ask 140 = .ok (.iload_n 1, 1) := by decide +kernel
theorem dX4_ask_141 : decode cX4_ask 141 = .ok (.dup2, 1) := by decide +kernel
theorem dX4_ask_142 : decode cX4_ask 142 = .ok (.iaload, 1) := by decide +kernel
theorem dX4_ask_143 : decode cX4_ask 143 = .ok (.iconst 1, 1) := by decide +kernel
theorem dX4_ask_144 : decode cX4_ask 144 = .ok (.iload_n 2, 1) := by decide +kernel
theorem dX4_ask_145 : decode cX4_ask 145 = .ok (.ishl, 1) := by decide +kernel
theorem dX4_ask_146 : decode cX4_ask 146 = .ok (.ior, 1) := by decide +kernel
theorem dX4_ask_147 : decode cX4_ask 147 = .ok (.iastore, 1) := by decide +kernel
theorem dX4_ask_148 : decode cX4_ask 148 = .ok (.aload_n 0, 1) := by decide +kernel
theorem dX4_ask_149 : decode cX4_ask 149 = .ok (.getfield 77, 3) := by decide +kernel
theorem dX4_ask_152 : decode cX4_ask 152 = .ok (.iload_n 1, 1) := by decide +kernel
theorem dX4_ask_153 : decode cX4_ask 153 = .ok (.iconst 1, 1) := by decide +kernel
theorem dX4_ask_154 : decode cX4_ask 154 = .ok (.iastore, 1) := by decide +kernel
theorem dX4_ask_155 : decode cX4_ask 155 = .ok (.return_, 1) := by decide +kernel
set_option maxRecDepth 20000 in
theorem ggX4_asksFor_X4_mays : GoodIn wsX4_asksFor wsX4_mays := goodIn_r _ [7, 8, 9, 10, 11, 58, 59, 60, 61, 62, 63, 64, 65, 66, 67, 68, 69, 70, 71, 72, 73, 74, 75, 76, 77, 78, 79, 80, 81, 82, 83, 84, 85, 86, 87, 88, 89, 90, 91, 92, 93, 94, 95, 96, 97, 98, 99, 100] (by decide +kernel) (by decide +kernel)
set_option maxRecDepth 20000 in
theorem gX4_asksFor_X4_mays : GoodIn wsX4_asksFor (wsV RX4 167 RX4 yX4_mays wsX4_mays) := goodIn_app (goodIn_of _ (by decide +kernel)) ggX4_asksFor_X4_mays
set_option maxRecDepth 20000 in
theorem ggX4_asksFor_X4_picked : GoodIn wsX4_asksFor wsX4_picked := goodIn_r _ [15, 16, 17, 18, 19, 6, 20, 8, 21, 22, 23, 24, 25, 26, 9, 27, 28, 29, 30, 31, 32, 33, 34, 35, 36, 37, 38, 39, 40, 58, 59, 60, 61, 62, 63, 64, 65, 66, 67, 68, 69, 70, 71, 72, 73, 74, 75, 76, 77, 78, 79, 80, 81, 82, 83, 84, 85, 86, 87, 88, 89, 90, 91, 92, 93, 94, 95, 96, 97, 98, 99, 100] (by decide +kernel) (by decide +kernel)
set_option maxRecDepth 20000 in
theorem gX4_asksFor_X4_picked : GoodIn wsX4_asksFor (wsV RX4 170 RX4 yX4_picked wsX4_picked) := goodIn_app (goodIn_of _ (by decide +kernel)) ggX4_asksFor_X4_picked
set_option maxRecDepth 20000 in
theorem ggX4_asksFor_X4_ask : GoodIn wsX4_asksFor wsX4_ask := goodIn_r _ [44, 45, 46, 9, 47, 48, 49, 50, 51, 52, 53, 54, 55, 56, 1, 57, 58, 59, 60, 61, 62, 63, 64, 65, 66, 67, 68, 69, 70, 71, 72, 73, 74, 75, 76, 77, 78, 79, 80, 81, 82, 83, 84, 85, 86, 87, 88, 89, 90, 91, 92, 93, 94, 95, 96, 97, 98, 99, 100] (by decide +kernel) (by decide +kernel)
set_option maxRecDepth 20000 in
theorem gX4_asksFor_X4_ask : GoodIn wsX4_asksFor (wsV RX4 174 RX4 yX4_ask wsX4_ask) := goodIn_app (goodIn_of _ (by decide +kernel)) ggX4_asksFor_X4_ask
theorem dX4_asksFor_0 : decode cX4_asksFor 0 = .ok (.aload_n 0, 1) := by decide +kernel
theorem dX4_asksFor_1 : decode cX4_asksFor 1 = .ok (.aload_n 0, 1) := by decide +kernel
theorem dX4_asksFor_2 : decode cX4_asksFor 2 = .ok (.getfield 83, 3) := by decide +kernel
theorem dX4_asksFor_5 : decode cX4_asksFor 5 = .ok (.iload_n 1, 1) := by decide +kernel
theorem dX4_asksFor_6 : decode cX4_asksFor 6 = .ok (.iaload, 1) := by decide +kernel
theorem dX4_asksFor_7 : decode cX4_asksFor 7 = .ok (.invokevirtual 167, 3) := by decide +kernel
theorem dX4_asksFor_10 : decode cX4_asksFor 10 = .ok (.istore_n 2, 1) := by decide +kernel
theorem dX4_asksFor_11 : decode cX4_asksFor 11 = .ok (.iload_n 2, 1) := by decide +kernel
theorem dX4_asksFor_12 : decode cX4_asksFor 12 = .ok (.ifCond .ne 5, 3) := by decide +kernel
theorem dX4_asksFor_15 : decode cX4_asksFor 15 = .ok (.iconst 0, 1) := by decide +kernel
theorem dX4_asksFor_16 : decode cX4_asksFor 16 = .ok (.ireturn, 1) := by decide +kernel
theorem dX4_asksFor_17 : decode cX4_asksFor 17 = .ok (.aload_n 0, 1) := by decide +kernel
theorem dX4_asksFor_18 : decode cX4_asksFor 18 = .ok (.iload_n 1, 1) := by decide +kernel
theorem dX4_asksFor_19 : decode cX4_asksFor 19 = .ok (.aload_n 0, 1) := by decide +kernel
theorem dX4_asksFor_20 : decode cX4_asksFor 20 = .ok (.iload_n 2, 1) := by decide +kernel
theorem dX4_asksFor_21 : decode cX4_asksFor 21 = .ok (.aload_n 0, 1) := by decide +kernel
theorem dX4_asksFor_22 : decode cX4_asksFor 22 = .ok (.getfield 68, 3) := by decide +kernel
theorem dX4_asksFor_25 : decode cX4_asksFor 25 = .ok (.iload_n 1, 1) := by decide +kernel
theorem dX4_asksFor_26 : decode cX4_asksFor 26 = .ok (.iaload, 1) := by decide +kernel
theorem dX4_asksFor_27 : decode cX4_asksFor 27 = .ok (.iconst 1, 1) := by decide +kernel
theorem dX4_asksFor_28 : decode cX4_asksFor 28 = .ok (.invokevirtual 170, 3) := by decide +kernel
theorem dX4_asksFor_31 : decode cX4_asksFor 31 = .ok (.invokevirtual 174, 3) := by decide +kernel
theorem dX4_asksFor_34 : decode cX4_asksFor 34 = .ok (.iconst 1, 1) := by decide +kernel
theorem dX4_asksFor_35 : decode cX4_asksFor 35 = .ok (.ireturn, 1) := by decide +kernel
end
section
set_option maxRecDepth 20000 in
theorem ggX4_call_X4_refuse : GoodIn wsX4_call wsX4_refuse := goodIn_r _ [15, 16, 74, 75, 76, 77, 78, 79, 80, 81, 82, 83, 84, 85, 86, 87, 88, 89, 90, 91, 92, 93, 94, 95, 96, 97, 98, 99, 100, 101, 102, 103, 104, 105, 106, 107, 108, 109, 110, 111, 112, 113, 114, 115, 116] (by decide +kernel) (by decide +kernel)
set_option maxRecDepth 20000 in
theorem gX4_call_X4_refuse : GoodIn wsX4_call (wsV RX4 124 RX4 yX4_refuse wsX4_refuse) := goodIn_app (goodIn_of _ (by decide +kernel)) ggX4_call_X4_refuse
set_option maxRecDepth 20000 in
theorem ggX4_call_X4_asksFor : GoodIn wsX4_call wsX4_asksFor := goodIn_r _ [20, 21, 3, 22, 23, 24, 14, 25, 26, 27, 28, 29, 30, 31, 32, 33, 34, 35, 36, 37, 38, 39, 40, 41, 42, 43, 44, 45, 46, 47, 48, 1, 49, 50, 51, 52, 53, 54, 55, 56, 57, 58, 59, 60, 61, 62, 63, 64, 65, 66, 6, 67, 68, 69, 70, 71, 72, 73, 74, 75, 76, 77, 78, 79, 80, 81, 82, 83, 84, 85, 86, 87, 88, 89, 90, 91, 92, 93, 94, 95, 96, 97, 98, 99, 100, 101, 102, 103, 104, 105, 106, 107, 108, 109, 110, 111, 112, 113, 114, 115, 116] (by decide +kernel) (by decide +kernel)
set_option maxRecDepth 20000 in
theorem gX4_call_X4_asksFor : GoodIn wsX4_call (wsV RX4 178 RX4 yX4_asksFor wsX4_asksFor) := goodIn_app (goodIn_of _ (by decide +kernel)) ggX4_call_X4_asksFor
theorem dX4_call_0 : decode cX4_call 0 = .ok (.iload_n 1, 1) := by decide +kernel
theorem dX4_call_1 : decode cX4_call 1 = .ok (.ifCond .lt 12, 3) := by decide +kernel
theorem dX4_call_4 : decode cX4_call 4 = .ok (.iload_n 2, 1) := by decide +kernel
theorem dX4_call_5 : decode cX4_call 5 = .ok (.ifCond .lt 8, 3) := by decide +kernel
theorem dX4_call_8 : decode cX4_call 8 = .ok (.iload_n 3, 1) := by decide +kernel
theorem dX4_call_9 : decode cX4_call 9 = .ok (.iconst 1, 1) := by decide +kernel
theorem dX4_call_10 : decode cX4_call 10 = .ok (.if_icmp .ge 10, 3) := by decide +kernel
theorem dX4_call_13 : decode cX4_call 13 = .ok (.aload_n 0, 1) := by decide +kernel
theorem dX4_call_14 : decode cX4_call 14 = .ok (.bipush (-4), 2) := by decide +kernel
theorem dX4_call_16 : decode cX4_call 16 = .ok (.invokevirtual 124, 3) := by decide +kernel
theorem dX4_call_19 : decode cX4_call 19 = .ok (.ireturn, 1) := by decide +kernel
theorem dX4_call_20 : decode cX4_call 20 = .ok (.iload_n 1, 1) := by decide +kernel
theorem dX4_call_21 : decode cX4_call 21 = .ok (.ldc 143, 2) := by decide +kernel
theorem dX4_call_23 : decode cX4_call 23 = .ok (.if_icmp .ge 25, 3) := by decide +kernel
theorem dX4_call_26 : decode cX4_call 26 = .ok (.iload_n 2, 1) := by decide +kernel
theorem dX4_call_27 : decode cX4_call 27 = .ok (.iconst 3, 1) := by decide +kernel
theorem dX4_call_28 : decode cX4_call 28 = .ok (.if_icmp .gt 20, 3) := by decide +kernel
theorem dX4_call_31 : decode cX4_call 31 = .ok (.iload_n 3, 1) := by decide +kernel
theorem dX4_call_32 : decode cX4_call 32 = .ok (.sipush 2000, 3) := by decide +kernel
theorem dX4_call_35 : decode cX4_call 35 = .ok (.if_icmp .gt 13, 3) := by decide +kernel
theorem dX4_call_38 : decode cX4_call 38 = .ok (.aload_n 0, 1) := by decide +kernel
theorem dX4_call_39 : decode cX4_call 39 = .ok (.getfield 121, 3) := by decide +kernel
theorem dX4_call_42 : decode cX4_call 42 = .ok (.sipush 200, 3) := by decide +kernel
theorem dX4_call_45 : decode cX4_call 45 = .ok (.if_icmp .ne 10, 3) := by decide +kernel
theorem dX4_call_48 : decode cX4_call 48 = .ok (.aload_n 0, 1) := by decide +kernel
theorem dX4_call_49 : decode cX4_call 49 = .ok (.bipush (-6), 2) := by decide +kernel
theorem dX4_call_51 : decode cX4_call 51 = .ok (.invokevirtual 124, 3) := by decide +kernel
theorem dX4_call_54 : decode cX4_call 54 = .ok (.ireturn, 1) := by decide +kernel
theorem dX4_call_55 : decode cX4_call 55 = .ok (.aload_n 0, 1) := by decide +kernel
theorem dX4_call_56 : decode cX4_call 56 = .ok (.getfield 121, 3) := by decide +kernel
theorem dX4_call_59 : decode cX4_call 59 = .ok (.istore 5, 2) := by decide +kernel
theorem dX4_call_61 : decode cX4_call 61 = .ok (.aload_n 0, 1) := by decide +kernel
theorem dX4_call_62 : decode cX4_call 62 = .ok (.dup, 1) := by decide +kernel
theorem dX4_call_63 : decode cX4_call 63 = .ok (.getfield 121, 3) := by decide +kernel
theorem dX4_call_66 : decode cX4_call 66 = .ok (.iconst 1, 1) := by decide +kernel
theorem dX4_call_67 : decode cX4_call 67 = .ok (.iadd, 1) := by decide +kernel
theorem dX4_call_68 : decode cX4_call 68 = .ok (.putfield 121, 3) := by decide +kernel
theorem dX4_call_71 : decode cX4_call 71 = .ok (.aload_n 0, 1) := by decide +kernel
theorem dX4_call_72 : decode cX4_call 72 = .ok (.getfield 68, 3) := by decide +kernel
theorem dX4_call_75 : decode cX4_call 75 = .ok (.iload 5, 2) := by decide +kernel
theorem dX4_call_77 : decode cX4_call 77 = .ok (.iload_n 1, 1) := by decide +kernel
theorem dX4_call_78 : decode cX4_call 78 = .ok (.iastore, 1) := by decide +kernel
theorem dX4_call_79 : decode cX4_call 79 = .ok (.aload_n 0, 1) := by decide +kernel
theorem dX4_call_80 : decode cX4_call 80 = .ok (.getfield 71, 3) := by decide +kernel
theorem dX4_call_83 : decode cX4_call 83 = .ok (.iload 5, 2) := by decide +kernel
theorem dX4_call_85 : decode cX4_call 85 = .ok (.iload_n 2, 1) := by decide +kernel
theorem dX4_call_86 : decode cX4_call 86 = .ok (.iastore, 1) := by decide +kernel
theorem dX4_call_87 : decode cX4_call 87 = .ok (.aload_n 0, 1) := by decide +kernel
theorem dX4_call_88 : decode cX4_call 88 = .ok (.getfield 74, 3) := by decide +kernel
theorem dX4_call_91 : decode cX4_call 91 = .ok (.iload 5, 2) := by decide +kernel
theorem dX4_call_93 : decode cX4_call 93 = .ok (.aload_n 0, 1) := by decide +kernel
theorem dX4_call_94 : decode cX4_call 94 = .ok (.getfield 163, 3) := by decide +kernel
theorem dX4_call_97 : decode cX4_call 97 = .ok (.iload_n 3, 1) := by decide +kernel
theorem dX4_call_98 : decode cX4_call 98 = .ok (.iadd, 1) := by decide +kernel
theorem dX4_call_99 : decode cX4_call 99 = .ok (.iastore, 1) := by decide +kernel
theorem dX4_call_100 : decode cX4_call 100 = .ok (.aload_n 0, 1) := by decide +kernel
theorem dX4_call_101 : decode cX4_call 101 = .ok (.getfield 95, 3) := by decide +kernel
theorem dX4_call_104 : decode cX4_call 104 = .ok (.iload 5, 2) := by decide +kernel
theorem dX4_call_106 : decode cX4_call 106 = .ok (.iload 4, 2) := by decide +kernel
theorem dX4_call_108 : decode cX4_call 108 = .ok (.bastore, 1) := by decide +kernel
theorem dX4_call_109 : decode cX4_call 109 = .ok (.aload_n 0, 1) := by decide +kernel
theorem dX4_call_110 : decode cX4_call 110 = .ok (.getfield 86, 3) := by decide +kernel
theorem dX4_call_113 : decode cX4_call 113 = .ok (.iload 5, 2) := by decide +kernel
theorem dX4_call_115 : decode cX4_call 115 = .ok (.aload_n 0, 1) := by decide +kernel
theorem dX4_call_116 : decode cX4_call 116 = .ok (.getfield 163, 3) := by decide +kernel
theorem dX4_call_119 : decode cX4_call 119 = .ok (.iastore, 1) := by decide +kernel
theorem dX4_call_120 : decode cX4_call 120 = .ok (.aload_n 0, 1) := by decide +kernel
theorem dX4_call_121 : decode cX4_call 121 = .ok (.getfield 89, 3) := by decide +kernel
theorem dX4_call_124 : decode cX4_call 124 = .ok (.iload 5, 2) := by decide +kernel
theorem dX4_call_126 : decode cX4_call 126 = .ok (.bipush (-9), 2) := by decide +kernel
theorem dX4_call_128 : decode cX4_call 128 = .ok (.iastore, 1) := by decide +kernel
theorem dX4_call_129 : decode cX4_call 129 = .ok (.aload_n 0, 1) := by decide +kernel
theorem dX4_call_130 : decode cX4_call 130 = .ok (.getfield 92, 3) := by decide +kernel
theorem dX4_call_133 : decode cX4_call 133 = .ok (.iload 5, 2) := by decide +kernel
theorem dX4_call_135 : decode cX4_call 135 = .ok (.bipush (-9), 2) := by decide +kernel
theorem dX4_call_137 : decode cX4_call 137 = .ok (.iastore, 1) := by decide +kernel
theorem dX4_call_138 : decode cX4_call 138 = .ok (.aload_n 0, 1) := by decide +kernel
theorem dX4_call_139 : decode cX4_call 139 = .ok (.iload 5, 2) := by decide +kernel
theorem dX4_call_141 : decode cX4_call 141 = .ok (.invokevirtual 178, 3) := by decide +kernel
theorem dX4_call_144 : decode cX4_call 144 = .ok (.istore 6, 2) := by decide +kernel
theorem dX4_call_146 : decode cX4_call 146 = .ok (.iload 5, 2) := by decide +kernel
theorem dX4_call_148 : decode cX4_call 148 = .ok (.ireturn, 1) := by decide +kernel
theorem dX4_outsNow_0 : decode cX4_outsNow 0 = .ok (.iconst 0, 1) := by decide +kernel
theorem dX4_outsNow_1 : decode cX4_outsNow 1 = .ok (.istore_n 2, 1) := by decide +kernel
theorem dX4_outsNow_2 : decode cX4_outsNow 2 = .ok (.iconst 0, 1) := by decide +kernel
theorem dX4_outsNow_3 : decode cX4_outsNow 3 = .ok (.istore_n 3, 1) := by decide +kernel
theorem dX4_outsNow_4 : decode cX4_outsNow 4 = .ok (.iload_n 3, 1) := by decide +kernel
theorem dX4_outsNow_5 : decode cX4_outsNow 5 = .ok (.aload_n 0, 1) := by decide +kernel
theorem dX4_outsNow_6 : decode cX4_outsNow 6 = .ok (.getfield 114, 3) := by decide +kernel
theorem dX4_outsNow_9 : decode cX4_outsNow 9 = .ok (.if_icmp .ge 50, 3) := by decide +kernel
theorem dX4_outsNow_12 : decode cX4_outsNow 12 = .ok (.iload_n 2, 1) := by decide +kernel
theorem dX4_outsNow_13 : decode cX4_outsNow 13 = .ok (.aload_n 0, 1) := by decide +kernel
theorem dX4_outsNow_14 : decode cX4_outsNow 14 = .ok (.getfield 38, 3) := by decide +kernel
theorem dX4_outsNow_17 : decode cX4_outsNow 17 = .ok (.iload_n 3, 1) := by decide +kernel
theorem dX4_outsNow_18 : decode cX4_outsNow 18 = .ok (.iaload, 1) := by decide +kernel
theorem dX4_outsNow_19 : decode cX4_outsNow 19 = .ok (.iconst 1, 1) := by decide +kernel
theorem dX4_outsNow_20 : decode cX4_outsNow 20 = .ok (.if_icmp .eq 26, 3) := by decide +kernel
theorem dX4_outsNow_23 : decode cX4_outsNow 23 = .ok (.iload_n 1, 1) := by decide +kernel
theorem dX4_outsNow_24 : decode cX4_outsNow 24 = .ok (.ifCond .eq 26, 3) := by decide +kernel
theorem dX4_outsNow_27 : decode cX4_outsNow 27 = .ok (.aload_n 0, 1) := by decide +kernel
theorem dX4_outsNow_28 : decode cX4_outsNow 28 = .ok (.getfield 38, 3) := by decide +kernel
theorem dX4_outsNow_31 : decode cX4_outsNow 31 = .ok (.iload_n 3, 1) := by decide +kernel
theorem dX4_outsNow_32 : decode cX4_outsNow 32 = .ok (.iaload, 1) := by decide +kernel
theorem dX4_outsNow_33 : decode cX4_outsNow 33 = .ok (.ifCond .eq 13, 3) := by decide +kernel
theorem dX4_outsNow_36 : decode cX4_outsNow 36 = .ok (.aload_n 0, 1) := by decide +kernel
theorem dX4_outsNow_37 : decode cX4_outsNow 37 = .ok (.getfield 38, 3) := by decide +kernel
theorem dX4_outsNow_40 : decode cX4_outsNow 40 = .ok (.iload_n 3, 1) := by decide +kernel
theorem dX4_outsNow_41 : decode cX4_outsNow 41 = .ok (.iaload, 1) := by decide +kernel
theorem dX4_outsNow_42 : decode cX4_outsNow 42 = .ok (.iconst 2, 1) := by decide +kernel
theorem dX4_outsNow_43 : decode cX4_outsNow 43 = .ok (.if_icmp .ne 7, 3) := by decide +kernel
theorem dX4_outsNow_46 : decode cX4_outsNow 46 = .ok (.iconst 1, 1) := by decide +kernel
theorem dX4_outsNow_47 : decode cX4_outsNow 47 = .ok (.goto 4, 3) := by decide +kernel
theorem dX4_outsNow_50 : decode cX4_outsNow 50 = .ok (.iconst 0, 1) := by decide +kernel
theorem dX4_outsNow_51 : decode cX4_outsNow 51 = .ok (.iadd, 1) := by decide +kernel
theorem dX4_outsNow_52 : decode cX4_outsNow 52 = .ok (.istore_n 2, 1) := by decide +kernel
theorem dX4_outsNow_53 : decode cX4_outsNow 53 = .ok (.iinc 3 1, 3) := by decide +kernel
theorem dX4_outsNow_56 : decode cX4_outsNow 56 = .ok (.goto (-52), 3) := by decide +kernel
theorem dX4_outsNow_59 : decode cX4_outsNow 59 = .ok (.iload_n 2, 1) := by decide +kernel
theorem dX4_outsNow_60 : decode cX4_outsNow 60 = .ok (.ireturn, 1) := by decide +kernel
set_option maxRecDepth 20000 in
theorem ggX4_failure_X4_outsNow : GoodIn wsX4_failure wsX4_outsNow := goodIn_r _ [17, 18, 3, 19, 20, 21, 22, 23, 24, 25, 26, 27, 28, 29, 30, 31, 32, 33, 34, 35, 36, 37, 38, 39, 40, 41, 42, 43, 44, 45, 46, 47, 48, 49, 50, 51, 52, 53, 54, 55, 56, 57, 58, 59, 60, 61] (by decide +kernel) (by decide +kernel)
set_option maxRecDepth 20000 in
theorem gX4_failure_X4_outsNow : GoodIn wsX4_failure (wsV RX4 181 RX4 yX4_outsNow wsX4_outsNow) := goodIn_app (goodIn_of _ (by decide +kernel)) ggX4_failure_X4_outsNow
theorem dX4_failure_0 : decode cX4_failure 0 = .ok (.aload_n 0, 1) := by decide +kernel
theorem dX4_failure_1 : decode cX4_failure 1 = .ok (.getfield 50, 3) := by decide +kernel
theorem dX4_failure_4 : decode cX4_failure 4 = .ok (.iload_n 1, 1) := by decide +kernel
theorem dX4_failure_5 : decode cX4_failure 5 = .ok (.dup2, 1) := by decide +kernel
theorem dX4_failure_6 : decode cX4_failure 6 = .ok (.iaload, 1) := by decide +kernel
theorem dX4_failure_7 : decode cX4_failure 7 = .ok (.iconst 1, 1) := by decide +kernel
theorem dX4_failure_8 : decode cX4_failure 8 = .ok (.iadd, 1) := by decide +kernel
theorem dX4_failure_9 : decode cX4_failure 9 = .ok (.iastore, 1) := by decide +kernel
theorem dX4_failure_10 : decode cX4_failure 10 = .ok (.aload_n 0, 1) := by decide +kernel
theorem dX4_failure_11 : decode cX4_failure 11 = .ok (.getfield 53, 3) := by decide +kernel
theorem dX4_failure_14 : decode cX4_failure 14 = .ok (.iload_n 1, 1) := by decide +kernel
theorem dX4_failure_15 : decode cX4_failure 15 = .ok (.dup2, 1) := by decide +kernel
theorem dX4_failure_16 : decode cX4_failure 16 = .ok (.iaload, 1) := by decide +kernel
theorem dX4_failure_17 : decode cX4_failure 17 = .ok (.iconst 1, 1) := by decide +kernel
theorem dX4_failure_18 : decode cX4_failure 18 = .ok (.iadd, 1) := by decide +kernel
theorem dX4_failure_19 : decode cX4_failure 19 = .ok (.iastore, 1) := by decide +kernel
theorem dX4_failure_20 : decode cX4_failure 20 = .ok (.aload_n 0, 1) := by decide +kernel
theorem dX4_failure_21 : decode cX4_failure 21 = .ok (.getfield 38, 3) := by decide +kernel
theorem dX4_failure_24 : decode cX4_failure 24 = .ok (.iload_n 1, 1) := by decide +kernel
theorem dX4_failure_25 : decode cX4_failure 25 = .ok (.iaload, 1) := by decide +kernel
theorem dX4_failure_26 : decode cX4_failure 26 = .ok (.iconst 2, 1) := by decide +kernel
theorem dX4_failure_27 : decode cX4_failure 27 = .ok (.if_icmp .eq 25, 3) := by decide +kernel
theorem dX4_failure_30 : decode cX4_failure 30 = .ok (.aload_n 0, 1) := by decide +kernel
theorem dX4_failure_31 : decode cX4_failure 31 = .ok (.getfield 38, 3) := by decide +kernel
theorem dX4_failure_34 : decode cX4_failure 34 = .ok (.iload_n 1, 1) := by decide +kernel
theorem dX4_failure_35 : decode cX4_failure 35 = .ok (.iaload, 1) := by decide +kernel
theorem dX4_failure_36 : decode cX4_failure 36 = .ok (.ifCond .ne 20, 3) := by decide +kernel
theorem dX4_failure_39 : decode cX4_failure 39 = .ok (.aload_n 0, 1) := by decide +kernel
theorem dX4_failure_40 : decode cX4_failure 40 = .ok (.getfield 53, 3) := by decide +kernel
theorem dX4_failure_43 : decode cX4_failure 43 = .ok (.iload_n 1, 1) := by decide +kernel
theorem dX4_failure_44 : decode cX4_failure 44 = .ok (.iaload, 1) := by decide +kernel
theorem dX4_failure_45 : decode cX4_failure 45 = .ok (.aload_n 0, 1) := by decide +kernel
theorem dX4_failure_46 : decode cX4_failure 46 = .ok (.getfield 13, 3) := by decide +kernel
theorem dX4_failure_49 : decode cX4_failure 49 = .ok (.if_icmp .lt 7, 3) := by decide +kernel
theorem dX4_failure_52 : decode cX4_failure 52 = .ok (.iconst 1, 1) := by decide +kernel
theorem dX4_failure_53 : decode cX4_failure 53 = .ok (.goto 4, 3) := by decide +kernel
theorem dX4_failure_56 : decode cX4_failure 56 = .ok (.iconst 0, 1) := by decide +kernel
theorem dX4_failure_57 : decode cX4_failure 57 = .ok (.istore_n 2, 1) := by decide +kernel
theorem dX4_failure_58 : decode cX4_failure 58 = .ok (.iload_n 2, 1) := by decide +kernel
theorem dX4_failure_59 : decode cX4_failure 59 = .ok (.ifCond .ne 4, 3) := by decide +kernel
theorem dX4_failure_62 : decode cX4_failure 62 = .ok (.return_, 1) := by decide +kernel
theorem dX4_failure_63 : decode cX4_failure 63 = .ok (.aload_n 0, 1) := by decide +kernel
theorem dX4_failure_64 : decode cX4_failure 64 = .ok (.getfield 53, 3) := by decide +kernel
theorem dX4_failure_67 : decode cX4_failure 67 = .ok (.iload_n 1, 1) := by decide +kernel
theorem dX4_failure_68 : decode cX4_failure 68 = .ok (.iconst 0, 1) := by decide +kernel
theorem dX4_failure_69 : decode cX4_failure 69 = .ok (.iastore, 1) := by decide +kernel
theorem dX4_failure_70 : decode cX4_failure 70 = .ok (.aload_n 0, 1) := by decide +kernel
theorem dX4_failure_71 : decode cX4_failure 71 = .ok (.iconst 0, 1) := by decide +kernel
theorem dX4_failure_72 : decode cX4_failure 72 = .ok (.invokevirtual 181, 3) := by decide +kernel
theorem dX4_failure_75 : decode cX4_failure 75 = .ok (.iconst 1, 1) := by decide +kernel
theorem dX4_failure_76 : decode cX4_failure 76 = .ok (.iadd, 1) := by decide +kernel
theorem dX4_failure_77 : decode cX4_failure 77 = .ok (.aload_n 0, 1) := by decide +kernel
theorem dX4_failure_78 : decode cX4_failure 78 = .ok (.iconst 1, 1) := by decide +kernel
theorem dX4_failure_79 : decode cX4_failure 79 = .ok (.invokevirtual 181, 3) := by decide +kernel
theorem dX4_failure_82 : decode cX4_failure 82 = .ok (.iconst 2, 1) := by decide +kernel
theorem dX4_failure_83 : decode cX4_failure 83 = .ok (.idiv, 1) := by decide +kernel
theorem dX4_failure_84 : decode cX4_failure 84 = .ok (.if_icmp .le 11, 3) := by decide +kernel
theorem dX4_failure_87 : decode cX4_failure 87 = .ok (.aload_n 0, 1) := by decide +kernel
theorem dX4_failure_88 : decode cX4_failure 88 = .ok (.getfield 38, 3) := by decide +kernel
theorem dX4_failure_91 : decode cX4_failure 91 = .ok (.iload_n 1, 1) := by decide +kernel
theorem dX4_failure_92 : decode cX4_failure 92 = .ok (.iconst 0, 1) := by decide +kernel
theorem dX4_failure_93 : decode cX4_failure 93 = .ok (.iastore, 1) := by decide +kernel
theorem dX4_failure_94 : decode cX4_failure 94 = .ok (.return_, 1) := by decide +kernel
theorem dX4_failure_95 : decode cX4_failure 95 = .ok (.aload_n 0, 1) := by decide +kernel
theorem dX4_failure_96 : decode cX4_failure 96 = .ok (.getfield 38, 3) := by decide +kernel
theorem dX4_failure_99 : decode cX4_failure 99 = .ok (.iload_n 1, 1) := by decide +kernel
theorem dX4_failure_100 : decode cX4_failure 100 = .ok (.iconst 1, 1) := by decide +kernel
theorem dX4_failure_101 : decode cX4_failure 101 = .ok (.iastore, 1) := by decide +kernel
theorem dX4_failure_102 : decode cX4_failure 102 = .ok (.aload_n 0, 1) := by decide +kernel
theorem dX4_failure_103 : decode cX4_failure 103 = .ok (.getfield 56, 3) := by decide +kernel
theorem dX4_failure_106 : decode cX4_failure 106 = .ok (.iload_n 1, 1) := by decide +kernel
theorem dX4_failure_107 : decode cX4_failure 107 = .ok (.aload_n 0, 1) := by decide +kernel
theorem dX4_failure_108 : decode cX4_failure 108 = .ok (.getfield 163, 3) := by decide +kernel
theorem dX4_failure_111 : decode cX4_failure 111 = .ok (.aload_n 0, 1) := by decide +kernel
theorem dX4_failure_112 : decode cX4_failure 112 = .ok (.getfield 59, 3) := by decide +kernel
theorem dX4_failure_115 : decode cX4_failure 115 = .ok (.iload_n 1, 1) := by decide +kernel
theorem dX4_failure_116 : decode cX4_failure 116 = .ok (.iaload, 1) := by decide +kernel
theorem dX4_failure_117 : decode cX4_failure 117 = .ok (.iadd, 1) := by decide +kernel
theorem dX4_failure_118 : decode cX4_failure 118 = .ok (.iastore, 1) := by decide +kernel
theorem dX4_failure_119 : decode cX4_failure 119 = .ok (.aload_n 0, 1) := by decide +kernel
theorem dX4_failure_120 : decode cX4_failure 120 = .ok (.getfield 59, 3) := by decide +kernel
theorem dX4_failure_123 : decode cX4_failure 123 = .ok (.iload_n 1, 1) := by decide +kernel
theorem dX4_failure_124 : decode cX4_failure 124 = .ok (.sipush 320, 3) := by decide +kernel
theorem dX4_failure_127 : decode cX4_failure 127 = .ok (.iconst 2, 1) := by decide +kernel
theorem dX4_failure_128 : decode cX4_failure 128 = .ok (.aload_n 0, 1) := by decide +kernel
theorem dX4_failure_129 : decode cX4_failure 129 = .ok (.getfield 59, 3) := by decide +kernel
theorem dX4_failure_132 : decode cX4_failure 132 = .ok (.iload_n 1, 1) := by decide +kernel
theorem dX4_failure_133 : decode cX4_failure 133 = .ok (.iaload, 1) := by decide +kernel
theorem dX4_failure_134 : decode cX4_failure 134 = .ok (.imul, 1) := by decide +kernel
theorem dX4_failure_135 : decode cX4_failure 135 = .ok (.invokestatic 185, 3) := by decide +kernel
theorem dX4_failure_138 : decode cX4_failure 138 = .ok (.iastore, 1) := by decide +kernel
theorem dX4_failure_139 : decode cX4_failure 139 = .ok (.aload_n 0, 1) := by decide +kernel
theorem dX4_failure_140 : decode cX4_failure 140 = .ok (.getfield 62, 3) := by decide +kernel
theorem dX4_failure_143 : decode cX4_failure 143 = .ok (.iload_n 1, 1) := by decide +kernel
theorem dX4_failure_144 : decode cX4_failure 144 = .ok (.dup2, 1) := by decide +kernel
theorem dX4_failure_145 : decode cX4_failure 145 = .ok (.iaload, 1) := by decide +kernel
theorem dX4_failure_146 : decode cX4_failure 146 = .ok (.iconst 1, 1) := by decide +kernel
theorem dX4_failure_147 : decode cX4_failure 147 = .ok (.iadd, 1) := by decide +kernel
theorem dX4_failure_148 : decode cX4_failure 148 = .ok (.iastore, 1) := by decide +kernel
theorem dX4_failure_149 : decode cX4_failure 149 = .ok (.return_, 1) := by decide +kernel
theorem dX4_answer_0 : decode cX4_answer 0 = .ok (.aload_n 0, 1) := by decide +kernel
theorem dX4_answer_1 : decode cX4_answer 1 = .ok (.getfield 47, 3) := by decide +kernel
theorem dX4_answer_4 : decode cX4_answer 4 = .ok (.iload_n 1, 1) := by decide +kernel
theorem dX4_answer_5 : decode cX4_answer 5 = .ok (.dup2, 1) := by decide +kernel
theorem dX4_answer_6 : decode cX4_answer 6 = .ok (.iaload, 1) := by decide +kernel
theorem dX4_answer_7 : decode cX4_answer 7 = .ok (.iconst 1, 1) := by decide +kernel
theorem dX4_answer_8 : decode cX4_answer 8 = .ok (.iadd, 1) := by decide +kernel
theorem dX4_answer_9 : decode cX4_answer 9 = .ok (.iastore, 1) := by decide +kernel
theorem dX4_answer_10 : decode cX4_answer 10 = .ok (.aload_n 0, 1) := by decide +kernel
theorem dX4_answer_11 : decode cX4_answer 11 = .ok (.getfield 53, 3) := by decide +kernel
theorem dX4_answer_14 : decode cX4_answer 14 = .ok (.iload_n 1, 1) := by decide +kernel
theorem dX4_answer_15 : decode cX4_answer 15 = .ok (.iconst 0, 1) := by decide +kernel
theorem dX4_answer_16 : decode cX4_answer 16 = .ok (.iastore, 1) := by decide +kernel
theorem dX4_answer_17 : decode cX4_answer 17 = .ok (.aload_n 0, 1) := by decide +kernel
theorem dX4_answer_18 : decode cX4_answer 18 = .ok (.getfield 59, 3) := by decide +kernel
theorem dX4_answer_21 : decode cX4_answer 21 = .ok (.iload_n 1, 1) := by decide +kernel
theorem dX4_answer_22 : decode cX4_answer 22 = .ok (.bipush 10, 2) := by decide +kernel
theorem dX4_answer_24 : decode cX4_answer 24 = .ok (.iastore, 1) := by decide +kernel
theorem dX4_answer_25 : decode cX4_answer 25 = .ok (.aload_n 0, 1) := by decide +kernel
theorem dX4_answer_26 : decode cX4_answer 26 = .ok (.getfield 38, 3) := by decide +kernel
theorem dX4_answer_29 : decode cX4_answer 29 = .ok (.iload_n 1, 1) := by decide +kernel
theorem dX4_answer_30 : decode cX4_answer 30 = .ok (.iaload, 1) := by decide +kernel
theorem dX4_answer_31 : decode cX4_answer 31 = .ok (.iconst 2, 1) := by decide +kernel
theorem dX4_answer_32 : decode cX4_answer 32 = .ok (.if_icmp .ne 10, 3) := by decide +kernel
theorem dX4_answer_35 : decode cX4_answer 35 = .ok (.aload_n 0, 1) := by decide +kernel
theorem dX4_answer_36 : decode cX4_answer 36 = .ok (.getfield 38, 3) := by decide +kernel
theorem dX4_answer_39 : decode cX4_answer 39 = .ok (.iload_n 1, 1) := by decide +kernel
theorem dX4_answer_40 : decode cX4_answer 40 = .ok (.iconst 0, 1) := by decide +kernel
theorem dX4_answer_41 : decode cX4_answer 41 = .ok (.iastore, 1) := by decide +kernel
theorem dX4_answer_42 : decode cX4_answer 42 = .ok (.return_, 1) := by decide +kernel
theorem dX4_takes_0 : decode cX4_takes 0 = .ok (.aload_n 0, 1) := by decide +kernel
theorem dX4_takes_1 : decode cX4_takes 1 = .ok (.getfield 41, 3) := by decide +kernel
theorem dX4_takes_4 : decode cX4_takes 4 = .ok (.aload_n 0, 1) := by decide +kernel
theorem dX4_takes_5 : decode cX4_takes 5 = .ok (.getfield 99, 3) := by decide +kernel
theorem dX4_takes_8 : decode cX4_takes 8 = .ok (.iconst 2, 1) := by decide +kernel
theorem dX4_takes_9 : decode cX4_takes 9 = .ok (.iload_n 1, 1) := by decide +kernel
theorem dX4_takes_10 : decode cX4_takes 10 = .ok (.imul, 1) := by decide +kernel
theorem dX4_takes_11 : decode cX4_takes 11 = .ok (.iload_n 2, 1) := by decide +kernel
theorem dX4_takes_12 : decode cX4_takes 12 = .ok (.iadd, 1) := by decide +kernel
theorem dX4_takes_13 : decode cX4_takes 13 = .ok (.iaload, 1) := by decide +kernel
theorem dX4_takes_14 : decode cX4_takes 14 = .ok (.dup2, 1) := by decide +kernel
theorem dX4_takes_15 : decode cX4_takes 15 = .ok (.iaload, 1) := by decide +kernel
theorem dX4_takes_16 : decode cX4_takes 16 = .ok (.iconst 1, 1) := by decide +kernel
theorem dX4_takes_17 : decode cX4_takes 17 = .ok (.isub, 1) := by decide +kernel
theorem dX4_takes_18 : decode cX4_takes 18 = .ok (.iastore, 1) := by decide +kernel
theorem dX4_takes_19 : decode cX4_takes 19 = .ok (.aload_n 0, 1) := by decide +kernel
theorem dX4_takes_20 : decode cX4_takes 20 = .ok (.getfield 80, 3) := by decide +kernel
theorem dX4_takes_23 : decode cX4_takes 23 = .ok (.iload_n 1, 1) := by decide +kernel
theorem dX4_takes_24 : decode cX4_takes 24 = .ok (.dup2, 1) := by decide +kernel
theorem dX4_takes_25 : decode cX4_takes 25 = .ok (.iaload, 1) := by decide +kernel
theorem dX4_takes_26 : decode cX4_takes 26 = .ok (.iconst 1, 1) := by decide +kernel
theorem dX4_takes_27 : decode cX4_takes 27 = .ok (.isub, 1) := by decide +kernel
theorem dX4_takes_28 : decode cX4_takes 28 = .ok (.iastore, 1) := by decide +kernel
theorem dX4_takes_29 : decode cX4_takes 29 = .ok (.iload_n 2, 1) := by decide +kernel
theorem dX4_takes_30 : decode cX4_takes 30 = .ok (.iconst 1, 1) := by decide +kernel
theorem dX4_takes_31 : decode cX4_takes 31 = .ok (.if_icmp .eq 12, 3) := by decide +kernel
theorem dX4_takes_34 : decode cX4_takes 34 = .ok (.aload_n 0, 1) := by decide +kernel
theorem dX4_takes_35 : decode cX4_takes 35 = .ok (.getfield 80, 3) := by decide +kernel
theorem dX4_takes_38 : decode cX4_takes 38 = .ok (.iload_n 1, 1) := by decide +kernel
theorem dX4_takes_39 : decode cX4_takes 39 = .ok (.iaload, 1) := by decide +kernel
theorem dX4_takes_40 : decode cX4_takes 40 = .ok (.ifCond .ne 4, 3) := by decide +kernel
theorem dX4_takes_43 : decode cX4_takes 43 = .ok (.return_, 1) := by decide +kernel
theorem dX4_takes_44 : decode cX4_takes 44 = .ok (.iconst 2, 1) := by decide +kernel
theorem dX4_takes_45 : decode cX4_takes 45 = .ok (.iload_n 1, 1) := by decide +kernel
theorem dX4_takes_46 : decode cX4_takes 46 = .ok (.imul, 1) := by decide +kernel
theorem dX4_takes_47 : decode cX4_takes 47 = .ok (.istore_n 3, 1) := by decide +kernel
theorem dX4_takes_48 : decode cX4_takes 48 = .ok (.aload_n 0, 1) := by decide +kernel
theorem dX4_takes_49 : decode cX4_takes 49 = .ok (.getfield 99, 3) := by decide +kernel
theorem dX4_takes_52 : decode cX4_takes 52 = .ok (.iload_n 3, 1) := by decide +kernel
theorem dX4_takes_53 : decode cX4_takes 53 = .ok (.aload_n 0, 1) := by decide +kernel
theorem dX4_takes_54 : decode cX4_takes 54 = .ok (.getfield 99, 3) := by decide +kernel
theorem dX4_takes_57 : decode cX4_takes 57 = .ok (.iload_n 3, 1) := by decide +kernel
theorem dX4_takes_58 : decode cX4_takes 58 = .ok (.iconst 1, 1) := by decide +kernel
theorem dX4_takes_59 : decode cX4_takes 59 = .ok (.iadd, 1) := by decide +kernel
theorem dX4_takes_60 : decode cX4_takes 60 = .ok (.iaload, 1) := by decide +kernel
theorem dX4_takes_61 : decode cX4_takes 61 = .ok (.iastore, 1) := by decide +kernel
theorem dX4_takes_62 : decode cX4_takes 62 = .ok (.aload_n 0, 1) := by decide +kernel
theorem dX4_takes_63 : decode cX4_takes 63 = .ok (.getfield 102, 3) := by decide +kernel
theorem dX4_takes_66 : decode cX4_takes 66 = .ok (.iload_n 3, 1) := by decide +kernel
theorem dX4_takes_67 : decode cX4_takes 67 = .ok (.aload_n 0, 1) := by decide +kernel
theorem dX4_takes_68 : decode cX4_takes 68 = .ok (.getfield 102, 3) := by decide +kernel
theorem dX4_takes_71 : decode cX4_takes 71 = .ok (.iload_n 3, 1) := by decide +kernel
theorem dX4_takes_72 : decode cX4_takes 72 = .ok (.iconst 1, 1) := by decide +kernel
theorem dX4_takes_73 : decode cX4_takes 73 = .ok (.iadd, 1) := by decide +kernel
theorem dX4_takes_74 : decode cX4_takes 74 = .ok (.iaload, 1) := by decide +kernel
theorem dX4_takes_75 : decode cX4_takes 75 = .ok (.iastore, 1) := by decide +kernel
theorem dX4_takes_76 : decode cX4_takes 76 = .ok (.aload_n 0, 1) := by decide +kernel
theorem dX4_takes_77 : decode cX4_takes 77 = .ok (.getfield 105, 3) := by decide +kernel
theorem dX4_takes_80 : decode cX4_takes 80 = .ok (.iload_n 3, 1) := by decide +kernel
theorem dX4_takes_81 : decode cX4_takes 81 = .ok (.aload_n 0, 1) := by decide +kernel
theorem dX4_takes_82 : decode cX4_takes 82 = .ok (.getfield 105, 3) := by decide +kernel
theorem dX4_takes_85 : decode cX4_takes 85 = .ok (.iload_n 3, 1) := by decide +kernel
theorem dX4_takes_86 : decode cX4_takes 86 = .ok (.iconst 1, 1) := by decide +kernel
theorem dX4_takes_87 : decode cX4_takes 87 = .ok (.iadd, 1) := by decide +kernel
theorem dX4_takes_88 : decode cX4_takes 88 = .ok (.iaload, 1) := by decide +kernel
theorem dX4_takes_89 : decode cX4_takes 89 = .ok (.iastore, 1) := by decide +kernel
theorem dX4_takes_90 : decode cX4_takes 90 = .ok (.aload_n 0, 1) := by decide +kernel
theorem dX4_takes_91 : decode cX4_takes 91 = .ok (.getfield 108, 3) := by decide +kernel
theorem dX4_takes_94 : decode cX4_takes 94 = .ok (.iload_n 3, 1) := by decide +kernel
theorem dX4_takes_95 : decode cX4_takes 95 = .ok (.aload_n 0, 1) := by decide +kernel
theorem dX4_takes_96 : decode cX4_takes 96 = .ok (.getfield 108, 3) := by decide +kernel
theorem dX4_takes_99 : decode cX4_takes 99 = .ok (.iload_n 3, 1) := by decide +kernel
theorem dX4_takes_100 : decode cX4_takes 100 = .ok (.iconst 1, 1) := by decide +kernel
theorem dX4_takes_101 : decode cX4_takes 101 = .ok (.iadd, 1) := by decide +kernel
theorem dX4_takes_102 : decode cX4_takes 102 = .ok (.baload, 1) := by decide +kernel
theorem dX4_takes_103 : decode cX4_takes 103 = .ok (.bastore, 1) := by decide +kernel
theorem dX4_takes_104 : decode cX4_takes 104 = .ok (.return_, 1) := by decide +kernel
set_option maxRecDepth 20000 in
theorem ggX4_ends_X4_takes : GoodIn wsX4_ends wsX4_takes := goodIn_r _ [9, 10, 11, 1, 12, 13, 14, 15, 16, 17, 18, 19, 20, 21, 22, 23, 24, 25, 26, 27, 28, 29, 30, 31, 32, 33, 34, 35, 36, 37, 38, 39, 40, 41, 42, 43, 44, 45, 46, 47, 48, 49, 50, 51, 52, 53, 54, 55, 56, 57] (by decide +kernel) (by decide +kernel)
set_option maxRecDepth 20000 in
theorem gX4_ends_X4_takes : GoodIn wsX4_ends (wsV RX4 190 RX4 yX4_takes wsX4_takes) := goodIn_app (goodIn_of _ (by decide +kernel)) ggX4_ends_X4_takes
theorem dX4_ends_0 : decode cX4_ends 0 = .ok (.aload_n 0, 1) := by decide +kernel
theorem dX4_ends_1 : decode cX4_ends 1 = .ok (.getfield 80, 3) := by decide +kernel
theorem dX4_ends_4 : decode cX4_ends 4 = .ok (.iload_n 1, 1) := by decide +kernel
theorem dX4_ends_5 : decode cX4_ends 5 = .ok (.iaload, 1) := by decide +kernel
theorem dX4_ends_6 : decode cX4_ends 6 = .ok (.ifCond .le 12, 3) := by decide +kernel
theorem dX4_ends_9 : decode cX4_ends 9 = .ok (.aload_n 0, 1) := by decide +kernel
theorem dX4_ends_10 : decode cX4_ends 10 = .ok (.iload_n 1, 1) := by decide +kernel
theorem dX4_ends_11 : decode cX4_ends 11 = .ok (.iconst 0, 1) := by decide +kernel
theorem dX4_ends_12 : decode cX4_ends 12 = .ok (.invokevirtual 190, 3) := by decide +kernel
theorem dX4_ends_15 : decode cX4_ends 15 = .ok (.goto (-15), 3) := by decide +kernel
theorem dX4_ends_18 : decode cX4_ends 18 = .ok (.aload_n 0, 1) := by decide +kernel
theorem dX4_ends_19 : decode cX4_ends 19 = .ok (.getfield 77, 3) := by decide +kernel
theorem dX4_ends_22 : decode cX4_ends 22 = .ok (.iload_n 1, 1) := by decide +kernel
theorem dX4_ends_23 : decode cX4_ends 23 = .ok (.iload_n 2, 1) := by decide +kernel
theorem dX4_ends_24 : decode cX4_ends 24 = .ok (.iastore, 1) := by decide +kernel
theorem dX4_ends_25 : decode cX4_ends 25 = .ok (.aload_n 0, 1) := by decide +kernel
theorem dX4_ends_26 : decode cX4_ends 26 = .ok (.getfield 89, 3) := by decide +kernel
theorem dX4_ends_29 : decode cX4_ends 29 = .ok (.iload_n 1, 1) := by decide +kernel
theorem dX4_ends_30 : decode cX4_ends 30 = .ok (.aload_n 0, 1) := by decide +kernel
theorem dX4_ends_31 : decode cX4_ends 31 = .ok (.getfield 163, 3) := by decide +kernel
theorem dX4_ends_34 : decode cX4_ends 34 = .ok (.iastore, 1) := by decide +kernel
theorem dX4_ends_35 : decode cX4_ends 35 = .ok (.return_, 1) := by decide +kernel
set_option maxRecDepth 20000 in
theorem ggX4_off_X4_isCall : GoodIn wsX4_off wsX4_isCall := goodIn_r _ [6, 7, 8, 9, 5, 10, 32, 33, 34, 35, 36, 37, 38, 39, 40, 41, 42, 43, 44, 45, 46, 47, 48, 49, 50, 51, 52, 53, 54, 55, 56, 57, 58, 59, 60, 61, 62, 63, 64, 65, 66, 67, 68, 69, 70, 71, 72, 73, 74] (by decide +kernel) (by decide +kernel)
set_option maxRecDepth 20000 in
theorem gX4_off_X4_isCall : GoodIn wsX4_off (wsV RX4 193 RX4 yX4_isCall wsX4_isCall) := goodIn_app (goodIn_of _ (by decide +kernel)) ggX4_off_X4_isCall
set_option maxRecDepth 20000 in
theorem ggX4_off_X4_refuse : GoodIn wsX4_off wsX4_refuse := goodIn_r _ [14, 15, 32, 33, 34, 35, 36, 37, 38, 39, 40, 41, 42, 43, 44, 45, 46, 47, 48, 49, 50, 51, 52, 53, 54, 55, 56, 57, 58, 59, 60, 61, 62, 63, 64, 65, 66, 67, 68, 69, 70, 71, 72, 73, 74] (by decide +kernel) (by decide +kernel)
set_option maxRecDepth 20000 in
theorem gX4_off_X4_refuse : GoodIn wsX4_off (wsV RX4 124 RX4 yX4_refuse wsX4_refuse) := goodIn_app (goodIn_of _ (by decide +kernel)) ggX4_off_X4_refuse
set_option maxRecDepth 20000 in
theorem ggX4_off_X4_ends : GoodIn wsX4_off wsX4_ends := goodIn_r _ [19, 20, 1, 21, 22, 23, 24, 25, 5, 26, 27, 28, 29, 30, 31, 32, 33, 34, 35, 36, 37, 38, 39, 40, 41, 42, 43, 44, 45, 46, 47, 48, 49, 50, 51, 52, 53, 54, 55, 56, 57, 58, 59, 60, 61, 62, 63, 64, 65, 66, 67, 68, 69, 70, 71, 72, 73, 74] (by decide +kernel) (by decide +kernel)
set_option maxRecDepth 20000 in
theorem gX4_off_X4_ends : GoodIn wsX4_off (wsV RX4 196 RX4 yX4_ends wsX4_ends) := goodIn_app (goodIn_of _ (by decide +kernel)) ggX4_off_X4_ends
theorem dX4_off_0 : decode cX4_off 0 = .ok (.aload_n 0, 1) := by decide +kernel
theorem dX4_off_1 : decode cX4_off 1 = .ok (.iload_n 1, 1) := by decide +kernel
theorem dX4_off_2 : decode cX4_off 2 = .ok (.invokevirtual 193, 3) := by decide +kernel
theorem dX4_off_5 : decode cX4_off 5 = .ok (.ifCond .ne 9, 3) := by decide +kernel
theorem dX4_off_8 : decode cX4_off 8 = .ok (.aload_n 0, 1) := by decide +kernel
theorem dX4_off_9 : decode cX4_off 9 = .ok (.iconst (-1), 1) := by decide +kernel
theorem dX4_off_10 : decode cX4_off 10 = .ok (.invokevirtual 124, 3) := by decide +kernel
theorem dX4_off_13 : decode cX4_off 13 = .ok (.ireturn, 1) := by decide +kernel
theorem dX4_off_14 : decode cX4_off 14 = .ok (.aload_n 0, 1) := by decide +kernel
theorem dX4_off_15 : decode cX4_off 15 = .ok (.getfield 77, 3) := by decide +kernel
theorem dX4_off_18 : decode cX4_off 18 = .ok (.iload_n 1, 1) := by decide +kernel
theorem dX4_off_19 : decode cX4_off 19 = .ok (.iaload, 1) := by decide +kernel
theorem dX4_off_20 : decode cX4_off 20 = .ok (.iconst 1, 1) := by decide +kernel
theorem dX4_off_21 : decode cX4_off 21 = .ok (.if_icmp .le 10, 3) := by decide +kernel
theorem dX4_off_24 : decode cX4_off 24 = .ok (.aload_n 0, 1) := by decide +kernel
theorem dX4_off_25 : decode cX4_off 25 = .ok (.bipush (-3), 2) := by decide +kernel
theorem dX4_off_27 : decode cX4_off 27 = .ok (.invokevirtual 124, 3) := by decide +kernel
theorem dX4_off_30 : decode cX4_off 30 = .ok (.ireturn, 1) := by decide +kernel
theorem dX4_off_31 : decode cX4_off 31 = .ok (.aload_n 0, 1) := by decide +kernel
theorem dX4_off_32 : decode cX4_off 32 = .ok (.iload_n 1, 1) := by decide +kernel
theorem dX4_off_33 : decode cX4_off 33 = .ok (.iconst 4, 1) := by decide +kernel
theorem dX4_off_34 : decode cX4_off 34 = .ok (.invokevirtual 196, 3) := by decide +kernel
theorem dX4_off_37 : decode cX4_off 37 = .ok (.iconst 1, 1) := by decide +kernel
theorem dX4_off_38 : decode cX4_off 38 = .ok (.ireturn, 1) := by decide +kernel
set_option maxRecDepth 20000 in
theorem ggX4_comesBack_X4_answer : GoodIn wsX4_comesBack wsX4_answer := goodIn_r _ [17, 18, 19, 20, 21, 50, 51, 52, 53, 54, 55, 56, 57, 58, 59, 60, 61, 62, 63, 64, 65, 66, 67, 68, 69, 70, 71, 72, 73, 74, 75, 76, 77, 78, 79, 80, 81, 82, 83, 84, 85, 86, 87, 88, 89, 90, 91, 92] (by decide +kernel) (by decide +kernel)
set_option maxRecDepth 20000 in
theorem gX4_comesBack_X4_answer : GoodIn wsX4_comesBack (wsV RX4 199 RX4 yX4_answer wsX4_answer) := goodIn_app (goodIn_of _ (by decide +kernel)) ggX4_comesBack_X4_answer
set_option maxRecDepth 20000 in
theorem ggX4_comesBack_X4_ends : GoodIn wsX4_comesBack wsX4_ends := goodIn_r _ [25, 1, 12, 26, 4, 27, 28, 29, 16, 30, 31, 2, 32, 3, 5, 50, 51, 52, 53, 54, 55, 56, 57, 58, 59, 60, 61, 62, 63, 64, 65, 66, 67, 68, 69, 70, 71, 72, 73, 74, 75, 76, 77, 78, 79, 80, 81, 82, 83, 84, 85, 86, 87, 88, 89, 90, 91, 92] (by decide +kernel) (by decide +kernel)
set_option maxRecDepth 20000 in
theorem gX4_comesBack_X4_ends : GoodIn wsX4_comesBack (wsV RX4 196 RX4 yX4_ends wsX4_ends) := goodIn_app (goodIn_of _ (by decide +kernel)) ggX4_comesBack_X4_ends
set_option maxRecDepth 20000 in
theorem ggX4_comesBack_X4_takes : GoodIn wsX4_comesBack wsX4_takes := goodIn_r _ [30, 31, 2, 1, 32, 3, 5, 50, 51, 52, 53, 54, 55, 56, 57, 58, 59, 60, 61, 62, 63, 64, 65, 66, 67, 68, 69, 70, 71, 72, 73, 74, 75, 76, 77, 78, 79, 80, 81, 82, 83, 84, 85, 86, 87, 88, 89, 90, 91, 92] (by decide +kernel) (by decide +kernel)
set_option maxRecDepth 20000 in
theorem gX4_comesBack_X4_takes : GoodIn wsX4_comesBack (wsV RX4 190 RX4 yX4_takes wsX4_takes) := goodIn_app (goodIn_of _ (by decide +kernel)) ggX4_comesBack_X4_takes
set_option maxRecDepth 20000 in
theorem ggX4_comesBack_X4_failure : GoodIn wsX4_comesBack wsX4_failure := goodIn_r _ [36, 37, 19, 21, 38, 39, 4, 20, 40, 41, 42, 43, 44, 45, 46, 47, 16, 48, 49, 50, 51, 52, 53, 54, 55, 56, 57, 58, 59, 60, 61, 62, 63, 64, 65, 66, 67, 68, 69, 70, 71, 72, 73, 74, 75, 76, 77, 78, 79, 80, 81, 82, 83, 84, 85, 86, 87, 88, 89, 90, 91, 92] (by decide +kernel) (by decide +kernel)
set_option maxRecDepth 20000 in
theorem gX4_comesBack_X4_failure : GoodIn wsX4_comesBack (wsV RX4 203 RX4 yX4_failure wsX4_failure) := goodIn_app (goodIn_of _ (by decide +kernel)) ggX4_comesBack_X4_failure
theorem dX4_comesBack_0 : decode cX4_comesBack 0 = .ok (.iconst 0, 1) := by decide +kernel
theorem dX4_comesBack_1 : decode cX4_comesBack 1 = .ok (.istore_n 2, 1) := by decide +kernel
theorem dX4_comesBack_2 : decode cX4_comesBack 2 = .ok (.iload_n 2, 1) := by decide +kernel
theorem dX4_comesBack_3 : decode cX4_comesBack 3 = .ok (.aload_n 0, 1) := by decide +kernel
theorem dX4_comesBack_4 : decode cX4_comesBack 4 = .ok (.getfield 80, 3) := by decide +kernel
theorem dX4_comesBack_7 : decode cX4_comesBack 7 = .ok (.iload_n 1, 1) := by decide +kernel
theorem dX4_comesBack_8 : decode cX4_comesBack 8 = .ok (.iaload, 1) := by decide +kernel
theorem dX4_comesBack_9 : decode cX4_comesBack 9 = .ok (.if_icmp .ge 82, 3) := by decide +kernel
theorem dX4_comesBack_12 : decode cX4_comesBack 12 = .ok (.iconst 2, 1) := by decide +kernel
theorem dX4_comesBack_13 : decode cX4_comesBack 13 = .ok (.iload_n 1, 1) := by decide +kernel
theorem dX4_comesBack_14 : decode cX4_comesBack 14 = .ok (.imul, 1) := by decide +kernel
theorem dX4_comesBack_15 : decode cX4_comesBack 15 = .ok (.iload_n 2, 1) := by decide +kernel
theorem dX4_comesBack_16 : decode cX4_comesBack 16 = .ok (.iadd, 1) := by decide +kernel
theorem dX4_comesBack_17 : decode cX4_comesBack 17 = .ok (.istore_n 3, 1) := by decide +kernel
theorem dX4_comesBack_18 : decode cX4_comesBack 18 = .ok (.aload_n 0, 1) := by decide +kernel
theorem dX4_comesBack_19 : decode cX4_comesBack 19 = .ok (.getfield 99, 3) := by decide +kernel
theorem dX4_comesBack_22 : decode cX4_comesBack 22 = .ok (.iload_n 3, 1) := by decide +kernel
theorem dX4_comesBack_23 : decode cX4_comesBack 23 = .ok (.iaload, 1) := by decide +kernel
theorem dX4_comesBack_24 : decode cX4_comesBack 24 = .ok (.istore 4, 2) := by decide +kernel
theorem dX4_comesBack_26 : decode cX4_comesBack 26 = .ok (.aload_n 0, 1) := by decide +kernel
theorem dX4_comesBack_27 : decode cX4_comesBack 27 = .ok (.getfield 105, 3) := by decide +kernel
theorem dX4_comesBack_30 : decode cX4_comesBack 30 = .ok (.iload_n 3, 1) := by decide +kernel
theorem dX4_comesBack_31 : decode cX4_comesBack 31 = .ok (.iaload, 1) := by decide +kernel
theorem dX4_comesBack_32 : decode cX4_comesBack 32 = .ok (.aload_n 0, 1) := by decide +kernel
theorem dX4_comesBack_33 : decode cX4_comesBack 33 = .ok (.getfield 163, 3) := by decide +kernel
theorem dX4_comesBack_36 : decode cX4_comesBack 36 = .ok (.if_icmp .le 9, 3) := by decide +kernel
theorem dX4_comesBack_39 : decode cX4_comesBack 39 = .ok (.iinc 2 1, 3) := by decide +kernel
theorem dX4_comesBack_42 : decode cX4_comesBack 42 = .ok (.goto (-40), 3) := by decide +kernel
theorem dX4_comesBack_45 : decode cX4_comesBack 45 = .ok (.aload_n 0, 1) := by decide +kernel
theorem dX4_comesBack_46 : decode cX4_comesBack 46 = .ok (.getfield 108, 3) := by decide +kernel
theorem dX4_comesBack_49 : decode cX4_comesBack 49 = .ok (.iload_n 3, 1) := by decide +kernel
theorem dX4_comesBack_50 : decode cX4_comesBack 50 = .ok (.baload, 1) := by decide +kernel
theorem dX4_comesBack_51 : decode cX4_comesBack 51 = .ok (.ifCond .ne 25, 3) := by decide +kernel
theorem dX4_comesBack_54 : decode cX4_comesBack 54 = .ok (.aload_n 0, 1) := by decide +kernel
theorem dX4_comesBack_55 : decode cX4_comesBack 55 = .ok (.iload 4, 2) := by decide +kernel
theorem dX4_comesBack_57 : decode cX4_comesBack 57 = .ok (.invokevirtual 199, 3) := by decide +kernel
theorem dX4_comesBack_60 : decode cX4_comesBack 60 = .ok (.aload_n 0, 1) := by decide +kernel
theorem dX4_comesBack_61 : decode cX4_comesBack 61 = .ok (.iload_n 1, 1) := by decide +kernel
theorem dX4_comesBack_62 : decode cX4_comesBack 62 = .ok (.iconst 2, 1) := by decide +kernel
theorem dX4_comesBack_63 : decode cX4_comesBack 63 = .ok (.invokevirtual 196, 3) := by decide +kernel
theorem dX4_comesBack_66 : decode cX4_comesBack 66 = .ok (.aload_n 0, 1) := by decide +kernel
theorem dX4_comesBack_67 : decode cX4_comesBack 67 = .ok (.getfield 92, 3) := by decide +kernel
theorem dX4_comesBack_70 : decode cX4_comesBack 70 = .ok (.iload_n 1, 1) := by decide +kernel
theorem dX4_comesBack_71 : decode cX4_comesBack 71 = .ok (.iload 4, 2) := by decide +kernel
theorem dX4_comesBack_73 : decode cX4_comesBack 73 = .ok (.iastore, 1) := by decide +kernel
theorem dX4_comesBack_74 : decode cX4_comesBack 74 = .ok (.iconst 1, 1) := by decide +kernel
theorem dX4_comesBack_75 : decode cX4_comesBack 75 = .ok (.ireturn, 1) := by decide +kernel
theorem dX4_comesBack_76 : decode cX4_comesBack 76 = .ok (.aload_n 0, 1) := by decide +kernel
theorem dX4_comesBack_77 : decode cX4_comesBack 77 = .ok (.iload_n 1, 1) := by decide +kernel
theorem dX4_comesBack_78 : decode cX4_comesBack 78 = .ok (.iload_n 2, 1) := by decide +kernel
theorem dX4_comesBack_79 : decode cX4_comesBack 79 = .ok (.invokevirtual 190, 3) := by decide +kernel
theorem dX4_comesBack_82 : decode cX4_comesBack 82 = .ok (.aload_n 0, 1) := by decide +kernel
theorem dX4_comesBack_83 : decode cX4_comesBack 83 = .ok (.iload 4, 2) := by decide +kernel
theorem dX4_comesBack_85 : decode cX4_comesBack 85 = .ok (.invokevirtual 203, 3) := by decide +kernel
theorem dX4_comesBack_88 : decode cX4_comesBack 88 = .ok (.goto (-86), 3) := by decide +kernel
theorem dX4_comesBack_91 : decode cX4_comesBack 91 = .ok (.aload_n 0, 1) := by decide +kernel
theorem dX4_comesBack_92 : decode cX4_comesBack 92 = .ok (.getfield 80, 3) := by decide +kernel
theorem dX4_comesBack_95 : decode cX4_comesBack 95 = .ok (.iload_n 1, 1) := by decide +kernel
theorem dX4_comesBack_96 : decode cX4_comesBack 96 = .ok (.iaload, 1) := by decide +kernel
theorem dX4_comesBack_97 : decode cX4_comesBack 97 = .ok (.ifCond .le 5, 3) := by decide +kernel
theorem dX4_comesBack_100 : decode cX4_comesBack 100 = .ok (.iconst 0, 1) := by decide +kernel
theorem dX4_comesBack_101 : decode cX4_comesBack 101 = .ok (.ireturn, 1) := by decide +kernel
theorem dX4_comesBack_102 : decode cX4_comesBack 102 = .ok (.aload_n 0, 1) := by decide +kernel
theorem dX4_comesBack_103 : decode cX4_comesBack 103 = .ok (.getfield 95, 3) := by decide +kernel
theorem dX4_comesBack_106 : decode cX4_comesBack 106 = .ok (.iload_n 1, 1) := by decide +kernel
theorem dX4_comesBack_107 : decode cX4_comesBack 107 = .ok (.baload, 1) := by decide +kernel
theorem dX4_comesBack_108 : decode cX4_comesBack 108 = .ok (.ifCond .eq 56, 3) := by decide +kernel
theorem dX4_comesBack_111 : decode cX4_comesBack 111 = .ok (.aload_n 0, 1) := by decide +kernel
theorem dX4_comesBack_112 : decode cX4_comesBack 112 = .ok (.getfield 163, 3) := by decide +kernel
theorem dX4_comesBack_115 : decode cX4_comesBack 115 = .ok (.aload_n 0, 1) := by decide +kernel
theorem dX4_comesBack_116 : decode cX4_comesBack 116 = .ok (.getfield 74, 3) := by decide +kernel
theorem dX4_comesBack_119 : decode cX4_comesBack 119 = .ok (.iload_n 1, 1) := by decide +kernel
theorem dX4_comesBack_120 : decode cX4_comesBack 120 = .ok (.iaload, 1) := by decide +kernel
theorem dX4_comesBack_121 : decode cX4_comesBack 121 = .ok (.if_icmp .ge 43, 3) := by decide +kernel
theorem dX4_comesBack_124 : decode cX4_comesBack 124 = .ok (.bipush 100, 2) := by decide +kernel
theorem dX4_comesBack_126 : decode cX4_comesBack 126 = .ok (.aload_n 0, 1) := by decide +kernel
theorem dX4_comesBack_127 : decode cX4_comesBack 127 = .ok (.getfield 206, 3) := by decide +kernel
theorem dX4_comesBack_130 : decode cX4_comesBack 130 = .ok (.iconst 1, 1) := by decide +kernel
theorem dX4_comesBack_131 : decode cX4_comesBack 131 = .ok (.iadd, 1) := by decide +kernel
theorem dX4_comesBack_132 : decode cX4_comesBack 132 = .ok (.imul, 1) := by decide +kernel
theorem dX4_comesBack_133 : decode cX4_comesBack 133 = .ok (.aload_n 0, 1) := by decide +kernel
theorem dX4_comesBack_134 : decode cX4_comesBack 134 = .ok (.getfield 17, 3) := by decide +kernel
theorem dX4_comesBack_137 : decode cX4_comesBack 137 = .ok (.aload_n 0, 1) := by decide +kernel
theorem dX4_comesBack_138 : decode cX4_comesBack 138 = .ok (.getfield 121, 3) := by decide +kernel
theorem dX4_comesBack_141 : decode cX4_comesBack 141 = .ok (.imul, 1) := by decide +kernel
theorem dX4_comesBack_142 : decode cX4_comesBack 142 = .ok (.if_icmp .gt 22, 3) := by decide +kernel
theorem dX4_comesBack_145 : decode cX4_comesBack 145 = .ok (.aload_n 0, 1) := by decide +kernel
theorem dX4_comesBack_146 : decode cX4_comesBack 146 = .ok (.dup, 1) := by decide +kernel
theorem dX4_comesBack_147 : decode cX4_comesBack 147 = .ok (.getfield 206, 3) := by decide +kernel
theorem dX4_comesBack_150 : decode cX4_comesBack 150 = .ok (.iconst 1, 1) := by decide +kernel
theorem dX4_comesBack_151 : decode cX4_comesBack 151 = .ok (.iadd, 1) := by decide +kernel
theorem dX4_comesBack_152 : decode cX4_comesBack 152 = .ok (.putfield 206, 3) := by decide +kernel
theorem dX4_comesBack_155 : decode cX4_comesBack 155 = .ok (.aload_n 0, 1) := by decide +kernel
theorem dX4_comesBack_156 : decode cX4_comesBack 156 = .ok (.getfield 77, 3) := by decide +kernel
theorem dX4_comesBack_159 : decode cX4_comesBack 159 = .ok (.iload_n 1, 1) := by decide +kernel
theorem dX4_comesBack_160 : decode cX4_comesBack 160 = .ok (.iconst 0, 1) := by decide +kernel
theorem dX4_comesBack_161 : decode cX4_comesBack 161 = .ok (.iastore, 1) := by decide +kernel
theorem dX4_comesBack_162 : decode cX4_comesBack 162 = .ok (.iconst 0, 1) := by decide +kernel
theorem dX4_comesBack_163 : decode cX4_comesBack 163 = .ok (.ireturn, 1) := by decide +kernel
theorem dX4_comesBack_164 : decode cX4_comesBack 164 = .ok (.aload_n 0, 1) := by decide +kernel
theorem dX4_comesBack_165 : decode cX4_comesBack 165 = .ok (.iload_n 1, 1) := by decide +kernel
theorem dX4_comesBack_166 : decode cX4_comesBack 166 = .ok (.iconst 3, 1) := by decide +kernel
theorem dX4_comesBack_167 : decode cX4_comesBack 167 = .ok (.invokevirtual 196, 3) := by decide +kernel
theorem dX4_comesBack_170 : decode cX4_comesBack 170 = .ok (.iconst 1, 1) := by decide +kernel
theorem dX4_comesBack_171 : decode cX4_comesBack 171 = .ok (.ireturn, 1) := by decide +kernel
set_option maxRecDepth 20000 in
theorem ggX4_isDue_X4_takes : GoodIn wsX4_isDue wsX4_takes := goodIn_r _ [10, 11, 5, 4, 12, 13, 14, 40, 41, 42, 43, 44, 45, 46, 47, 48, 49, 50, 51, 52, 53, 54, 55, 56, 57, 58, 59, 60, 61, 62, 63, 64, 65, 66, 67, 68, 69, 70, 71, 72, 73, 74, 75, 76, 77, 78, 79, 80, 81, 82] (by decide +kernel) (by decide +kernel)
set_option maxRecDepth 20000 in
theorem gX4_isDue_X4_takes : GoodIn wsX4_isDue (wsV RX4 190 RX4 yX4_takes wsX4_takes) := goodIn_app (goodIn_of _ (by decide +kernel)) ggX4_isDue_X4_takes
set_option maxRecDepth 20000 in
theorem ggX4_isDue_X4_failure : GoodIn wsX4_isDue wsX4_failure := goodIn_r _ [18, 19, 20, 21, 22, 23, 2, 24, 25, 26, 27, 28, 29, 30, 31, 32, 9, 33, 34, 40, 41, 42, 43, 44, 45, 46, 47, 48, 49, 50, 51, 52, 53, 54, 55, 56, 57, 58, 59, 60, 61, 62, 63, 64, 65, 66, 67, 68, 69, 70, 71, 72, 73, 74, 75, 76, 77, 78, 79, 80, 81, 82] (by decide +kernel) (by decide +kernel)
set_option maxRecDepth 20000 in
theorem gX4_isDue_X4_failure : GoodIn wsX4_isDue (wsV RX4 203 RX4 yX4_failure wsX4_failure) := goodIn_app (goodIn_of _ (by decide +kernel)) ggX4_isDue_X4_failure
set_option maxRecDepth 20000 in
theorem ggX4_isDue_X4_ends : GoodIn wsX4_isDue wsX4_ends := goodIn_r _ [38, 4, 3, 39, 2, 6, 7, 8, 9, 10, 11, 5, 12, 13, 14, 40, 41, 42, 43, 44, 45, 46, 47, 48, 49, 50, 51, 52, 53, 54, 55, 56, 57, 58, 59, 60, 61, 62, 63, 64, 65, 66, 67, 68, 69, 70, 71, 72, 73, 74, 75, 76, 77, 78, 79, 80, 81, 82] (by decide +kernel) (by decide +kernel)
set_option maxRecDepth 20000 in
theorem gX4_isDue_X4_ends : GoodIn wsX4_isDue (wsV RX4 196 RX4 yX4_ends wsX4_ends) := goodIn_app (goodIn_of _ (by decide +kernel)) ggX4_isDue_X4_ends
theorem dX4_isDue_0 : decode cX4_isDue 0 = .ok (.aload_n 0, 1) := by decide +kernel
theorem dX4_isDue_1 : decode cX4_isDue 1 = .ok (.getfield 74, 3) := by decide +kernel
theorem dX4_isDue_4 : decode cX4_isDue 4 = .ok (.iload_n 1, 1) := by decide +kernel
theorem dX4_isDue_5 : decode cX4_isDue 5 = .ok (.iaload, 1) := by decide +kernel
theorem dX4_isDue_6 : decode cX4_isDue 6 = .ok (.aload_n 0, 1) := by decide +kernel
theorem dX4_isDue_7 : decode cX4_isDue 7 = .ok (.getfield 163, 3) := by decide +kernel
theorem dX4_isDue_10 : decode cX4_isDue 10 = .ok (.if_icmp .ne 13, 3) := by decide +kernel
theorem dX4_isDue_13 : decode cX4_isDue 13 = .ok (.aload_n 0, 1) := by decide +kernel
theorem dX4_isDue_14 : decode cX4_isDue 14 = .ok (.getfield 77, 3) := by decide +kernel
theorem dX4_isDue_17 : decode cX4_isDue 17 = .ok (.iload_n 1, 1) := by decide +kernel
theorem dX4_isDue_18 : decode cX4_isDue 18 = .ok (.iaload, 1) := by decide +kernel
theorem dX4_isDue_19 : decode cX4_isDue 19 = .ok (.iconst 1, 1) := by decide +kernel
theorem dX4_isDue_20 : decode cX4_isDue 20 = .ok (.if_icmp .le 5, 3) := by decide +kernel
theorem dX4_isDue_23 : decode cX4_isDue 23 = .ok (.iconst 0, 1) := by decide +kernel
theorem dX4_isDue_24 : decode cX4_isDue 24 = .ok (.ireturn, 1) := by decide +kernel
theorem dX4_isDue_25 : decode cX4_isDue 25 = .ok (.aload_n 0, 1) := by decide +kernel
theorem dX4_isDue_26 : decode cX4_isDue 26 = .ok (.getfield 77, 3) := by decide +kernel
theorem dX4_isDue_29 : decode cX4_isDue 29 = .ok (.iload_n 1, 1) := by decide +kernel
theorem dX4_isDue_30 : decode cX4_isDue 30 = .ok (.iaload, 1) := by decide +kernel
theorem dX4_isDue_31 : decode cX4_isDue 31 = .ok (.iconst 1, 1) := by decide +kernel
theorem dX4_isDue_32 : decode cX4_isDue 32 = .ok (.if_icmp .ne 7, 3) := by decide +kernel
theorem dX4_isDue_35 : decode cX4_isDue 35 = .ok (.iconst 1, 1) := by decide +kernel
theorem dX4_isDue_36 : decode cX4_isDue 36 = .ok (.goto 4, 3) := by decide +kernel
theorem dX4_isDue_39 : decode cX4_isDue 39 = .ok (.iconst 0, 1) := by decide +kernel
theorem dX4_isDue_40 : decode cX4_isDue 40 = .ok (.istore_n 2, 1) := by decide +kernel
theorem dX4_isDue_41 : decode cX4_isDue 41 = .ok (.aload_n 0, 1) := by decide +kernel
theorem dX4_isDue_42 : decode cX4_isDue 42 = .ok (.getfield 80, 3) := by decide +kernel
theorem dX4_isDue_45 : decode cX4_isDue 45 = .ok (.iload_n 1, 1) := by decide +kernel
theorem dX4_isDue_46 : decode cX4_isDue 46 = .ok (.iaload, 1) := by decide +kernel
theorem dX4_isDue_47 : decode cX4_isDue 47 = .ok (.ifCond .le 26, 3) := by decide +kernel
theorem dX4_isDue_50 : decode cX4_isDue 50 = .ok (.aload_n 0, 1) := by decide +kernel
theorem dX4_isDue_51 : decode cX4_isDue 51 = .ok (.getfield 99, 3) := by decide +kernel
theorem dX4_isDue_54 : decode cX4_isDue 54 = .ok (.iconst 2, 1) := by decide +kernel
theorem dX4_isDue_55 : decode cX4_isDue 55 = .ok (.iload_n 1, 1) := by decide +kernel
theorem dX4_isDue_56 : decode cX4_isDue 56 = .ok (.imul, 1) := by decide +kernel
theorem dX4_isDue_57 : decode cX4_isDue 57 = .ok (.iaload, 1) := by decide +kernel
theorem dX4_isDue_58 : decode cX4_isDue 58 = .ok (.istore_n 3, 1) := by decide +kernel
theorem dX4_isDue_59 : decode cX4_isDue 59 = .ok (.aload_n 0, 1) := by decide +kernel
theorem dX4_isDue_60 : decode cX4_isDue 60 = .ok (.iload_n 1, 1) := by decide +kernel
theorem dX4_isDue_61 : decode cX4_isDue 61 = .ok (.iconst 0, 1) := by decide +kernel
theorem dX4_isDue_62 : decode cX4_isDue 62 = .ok (.invokevirtual 190, 3) := by decide +kernel
theorem dX4_isDue_65 : decode cX4_isDue 65 = .ok (.aload_n 0, 1) := by decide +kernel
theorem dX4_isDue_66 : decode cX4_isDue 66 = .ok (.iload_n 3, 1) := by decide +kernel
theorem dX4_isDue_67 : decode cX4_isDue 67 = .ok (.invokevirtual 203, 3) := by decide +kernel
theorem dX4_isDue_70 : decode cX4_isDue 70 = .ok (.goto (-29), 3) := by decide +kernel
theorem dX4_isDue_73 : decode cX4_isDue 73 = .ok (.aload_n 0, 1) := by decide +kernel
theorem dX4_isDue_74 : decode cX4_isDue 74 = .ok (.iload_n 1, 1) := by decide +kernel
theorem dX4_isDue_75 : decode cX4_isDue 75 = .ok (.iload_n 2, 1) := by decide +kernel
theorem dX4_isDue_76 : decode cX4_isDue 76 = .ok (.ifCond .eq 7, 3) := by decide +kernel
theorem dX4_isDue_79 : decode cX4_isDue 79 = .ok (.iconst 3, 1) := by decide +kernel
theorem dX4_isDue_80 : decode cX4_isDue 80 = .ok (.goto 4, 3) := by decide +kernel
theorem dX4_isDue_83 : decode cX4_isDue 83 = .ok (.iconst 4, 1) := by decide +kernel
theorem dX4_isDue_84 : decode cX4_isDue 84 = .ok (.invokevirtual 196, 3) := by decide +kernel
theorem dX4_isDue_87 : decode cX4_isDue 87 = .ok (.iconst 1, 1) := by decide +kernel
theorem dX4_isDue_88 : decode cX4_isDue 88 = .ok (.ireturn, 1) := by decide +kernel
set_option maxRecDepth 20000 in
theorem ggX4_hedges_X4_mays : GoodIn wsX4_hedges wsX4_mays := goodIn_r _ [13, 14, 15, 16, 17, 36, 37, 38, 39, 40, 41, 42, 43, 44, 45, 46, 47, 48, 49, 50, 51, 52, 53, 54, 55, 56, 57, 58, 59, 60, 61, 62, 63, 64, 65, 66, 67, 68, 69, 70, 71, 72, 73, 74, 75, 76, 77, 78] (by decide +kernel) (by decide +kernel)
set_option maxRecDepth 20000 in
theorem gX4_hedges_X4_mays : GoodIn wsX4_hedges (wsV RX4 167 RX4 yX4_mays wsX4_mays) := goodIn_app (goodIn_of _ (by decide +kernel)) ggX4_hedges_X4_mays
set_option maxRecDepth 20000 in
theorem ggX4_hedges_X4_fewest : GoodIn wsX4_hedges wsX4_fewest := goodIn_r _ [21, 14, 15, 22, 36, 37, 38, 39, 40, 41, 42, 43, 44, 45, 46, 47, 48, 49, 50, 51, 52, 53, 54, 55, 56, 57, 58, 59, 60, 61, 62, 63, 64, 65, 66, 67, 68, 69, 70, 71, 72, 73, 74, 75, 76, 77, 78] (by decide +kernel) (by decide +kernel)
set_option maxRecDepth 20000 in
theorem gX4_hedges_X4_fewest : GoodIn wsX4_hedges (wsV RX4 147 RX4 yX4_fewest wsX4_fewest) := goodIn_app (goodIn_of _ (by decide +kernel)) ggX4_hedges_X4_fewest
set_option maxRecDepth 20000 in
theorem ggX4_hedges_X4_ask : GoodIn wsX4_hedges wsX4_ask := goodIn_r _ [26, 27, 28, 15, 3, 29, 4, 6, 30, 31, 32, 33, 34, 35, 7, 1, 36, 37, 38, 39, 40, 41, 42, 43, 44, 45, 46, 47, 48, 49, 50, 51, 52, 53, 54, 55, 56, 57, 58, 59, 60, 61, 62, 63, 64, 65, 66, 67, 68, 69, 70, 71, 72, 73, 74, 75, 76, 77, 78] (by decide +kernel) (by decide +kernel)
set_option maxRecDepth 20000 in
theorem gX4_hedges_X4_ask : GoodIn wsX4_hedges (wsV RX4 174 RX4 yX4_ask wsX4_ask) := goodIn_app (goodIn_of _ (by decide +kernel)) ggX4_hedges_X4_ask
theorem dX4_hedges_0 : decode cX4_hedges 0 = .ok (.aload_n 0, 1) := by decide +kernel
theorem dX4_hedges_1 : decode cX4_hedges 1 = .ok (.getfield 77, 3) := by decide +kernel
theorem dX4_hedges_4 : decode cX4_hedges 4 = .ok (.iload_n 1, 1) := by decide +kernel
theorem dX4_hedges_5 : decode cX4_hedges 5 = .ok (.iaload, 1) := by decide +kernel
theorem dX4_hedges_6 : decode cX4_hedges 6 = .ok (.iconst 1, 1) := by decide +kernel
theorem dX4_hedges_7 : decode cX4_hedges 7 = .ok (.if_icmp .ne 42, 3) := by decide +kernel
theorem dX4_hedges_10 : decode cX4_hedges 10 = .ok (.aload_n 0, 1) := by decide +kernel
theorem dX4_hedges_11 : decode cX4_hedges 11 = .ok (.getfield 95, 3) := by decide +kernel
theorem dX4_hedges_14 : decode cX4_hedges 14 = .ok (.iload_n 1, 1) := by decide +kernel
theorem dX4_hedges_15 : decode cX4_hedges 15 = .ok (.baload, 1) := by decide +kernel
theorem dX4_hedges_16 : decode cX4_hedges 16 = .ok (.ifCond .eq 33, 3) := by decide +kernel
theorem dX4_hedges_19 : decode cX4_hedges 19 = .ok (.aload_n 0, 1) := by decide +kernel
theorem dX4_hedges_20 : decode cX4_hedges 20 = .ok (.getfield 80, 3) := by decide +kernel
theorem dX4_hedges_23 : decode cX4_hedges 23 = .ok (.iload_n 1, 1) := by decide +kernel
theorem dX4_hedges_24 : decode cX4_hedges 24 = .ok (.iaload, 1) := by decide +kernel
theorem dX4_hedges_25 : decode cX4_hedges 25 = .ok (.iconst 1, 1) := by decide +kernel
theorem dX4_hedges_26 : decode cX4_hedges 26 = .ok (.if_icmp .ne 23, 3) := by decide +kernel
theorem dX4_hedges_29 : decode cX4_hedges 29 = .ok (.aload_n 0, 1) := by decide +kernel
theorem dX4_hedges_30 : decode cX4_hedges 30 = .ok (.getfield 102, 3) := by decide +kernel
theorem dX4_hedges_33 : decode cX4_hedges 33 = .ok (.iconst 2, 1) := by decide +kernel
theorem dX4_hedges_34 : decode cX4_hedges 34 = .ok (.iload_n 1, 1) := by decide +kernel
theorem dX4_hedges_35 : decode cX4_hedges 35 = .ok (.imul, 1) := by decide +kernel
theorem dX4_hedges_36 : decode cX4_hedges 36 = .ok (.iaload, 1) := by decide +kernel
theorem dX4_hedges_37 : decode cX4_hedges 37 = .ok (.aload_n 0, 1) := by decide +kernel
theorem dX4_hedges_38 : decode cX4_hedges 38 = .ok (.getfield 139, 3) := by decide +kernel
theorem dX4_hedges_41 : decode cX4_hedges 41 = .ok (.iadd, 1) := by decide +kernel
theorem dX4_hedges_42 : decode cX4_hedges 42 = .ok (.aload_n 0, 1) := by decide +kernel
theorem dX4_hedges_43 : decode cX4_hedges 43 = .ok (.getfield 163, 3) := by decide +kernel
theorem dX4_hedges_46 : decode cX4_hedges 46 = .ok (.if_icmp .eq 4, 3) := by decide +kernel
theorem dX4_hedges_49 : decode cX4_hedges 49 = .ok (.return_, 1) := by decide +kernel
theorem dX4_hedges_50 : decode cX4_hedges 50 = .ok (.aload_n 0, 1) := by decide +kernel
theorem dX4_hedges_51 : decode cX4_hedges 51 = .ok (.aload_n 0, 1) := by decide +kernel
theorem dX4_hedges_52 : decode cX4_hedges 52 = .ok (.getfield 83, 3) := by decide +kernel
theorem dX4_hedges_55 : decode cX4_hedges 55 = .ok (.iload_n 1, 1) := by decide +kernel
theorem dX4_hedges_56 : decode cX4_hedges 56 = .ok (.iaload, 1) := by decide +kernel
theorem dX4_hedges_57 : decode cX4_hedges 57 = .ok (.invokevirtual 167, 3) := by decide +kernel
theorem dX4_hedges_60 : decode cX4_hedges 60 = .ok (.istore_n 2, 1) := by decide +kernel
theorem dX4_hedges_61 : decode cX4_hedges 61 = .ok (.iload_n 2, 1) := by decide +kernel
theorem dX4_hedges_62 : decode cX4_hedges 62 = .ok (.ifCond .ne 4, 3) := by decide +kernel
theorem dX4_hedges_65 : decode cX4_hedges 65 = .ok (.return_, 1) := by decide +kernel
theorem dX4_hedges_66 : decode cX4_hedges 66 = .ok (.aload_n 0, 1) := by decide +kernel
theorem dX4_hedges_67 : decode cX4_hedges 67 = .ok (.iload_n 1, 1) := by decide +kernel
theorem dX4_hedges_68 : decode cX4_hedges 68 = .ok (.aload_n 0, 1) := by decide +kernel
theorem dX4_hedges_69 : decode cX4_hedges 69 = .ok (.iload_n 2, 1) := by decide +kernel
theorem dX4_hedges_70 : decode cX4_hedges 70 = .ok (.invokevirtual 147, 3) := by decide +kernel
theorem dX4_hedges_73 : decode cX4_hedges 73 = .ok (.invokevirtual 174, 3) := by decide +kernel
theorem dX4_hedges_76 : decode cX4_hedges 76 = .ok (.aload_n 0, 1) := by decide +kernel
theorem dX4_hedges_77 : decode cX4_hedges 77 = .ok (.dup, 1) := by decide +kernel
theorem dX4_hedges_78 : decode cX4_hedges 78 = .ok (.getfield 209, 3) := by decide +kernel
theorem dX4_hedges_81 : decode cX4_hedges 81 = .ok (.iconst 1, 1) := by decide +kernel
theorem dX4_hedges_82 : decode cX4_hedges 82 = .ok (.iadd, 1) := by decide +kernel
theorem dX4_hedges_83 : decode cX4_hedges 83 = .ok (.putfield 209, 3) := by decide +kernel
theorem dX4_hedges_86 : decode cX4_hedges 86 = .ok (.return_, 1) := by decide +kernel
theorem dX4_isAhead_0 : decode cX4_isAhead 0 = .ok (.aload_n 0, 1) := by decide +kernel
theorem dX4_isAhead_1 : decode cX4_isAhead 1 = .ok (.getfield 71, 3) := by decide +kernel
theorem dX4_isAhead_4 : decode cX4_isAhead 4 = .ok (.iload_n 1, 1) := by decide +kernel
theorem dX4_isAhead_5 : decode cX4_isAhead 5 = .ok (.iaload, 1) := by decide +kernel
theorem dX4_isAhead_6 : decode cX4_isAhead 6 = .ok (.aload_n 0, 1) := by decide +kernel
theorem dX4_isAhead_7 : decode cX4_isAhead 7 = .ok (.getfield 71, 3) := by decide +kernel
theorem dX4_isAhead_10 : decode cX4_isAhead 10 = .ok (.iload_n 2, 1) := by decide +kernel
theorem dX4_isAhead_11 : decode cX4_isAhead 11 = .ok (.iaload, 1) := by decide +kernel
theorem dX4_isAhead_12 : decode cX4_isAhead 12 = .ok (.if_icmp .eq 24, 3) := by decide +kernel
theorem dX4_isAhead_15 : decode cX4_isAhead 15 = .ok (.aload_n 0, 1) := by decide +kernel
theorem dX4_isAhead_16 : decode cX4_isAhead 16 = .ok (.getfield 71, 3) := by decide +kernel
theorem dX4_isAhead_19 : decode cX4_isAhead 19 = .ok (.iload_n 1, 1) := by decide +kernel
theorem dX4_isAhead_20 : decode cX4_isAhead 20 = .ok (.iaload, 1) := by decide +kernel
theorem dX4_isAhead_21 : decode cX4_isAhead 21 = .ok (.aload_n 0, 1) := by decide +kernel
theorem dX4_isAhead_22 : decode cX4_isAhead 22 = .ok (.getfield 71, 3) := by decide +kernel
theorem dX4_isAhead_25 : decode cX4_isAhead 25 = .ok (.iload_n 2, 1) := by decide +kernel
theorem dX4_isAhead_26 : decode cX4_isAhead 26 = .ok (.iaload, 1) := by decide +kernel
theorem dX4_isAhead_27 : decode cX4_isAhead 27 = .ok (.if_icmp .le 7, 3) := by decide +kernel
theorem dX4_isAhead_30 : decode cX4_isAhead 30 = .ok (.iconst 1, 1) := by decide +kernel
theorem dX4_isAhead_31 : decode cX4_isAhead 31 = .ok (.goto 4, 3) := by decide +kernel
theorem dX4_isAhead_34 : decode cX4_isAhead 34 = .ok (.iconst 0, 1) := by decide +kernel
theorem dX4_isAhead_35 : decode cX4_isAhead 35 = .ok (.ireturn, 1) := by decide +kernel
theorem dX4_isAhead_36 : decode cX4_isAhead 36 = .ok (.aload_n 0, 1) := by decide +kernel
theorem dX4_isAhead_37 : decode cX4_isAhead 37 = .ok (.getfield 74, 3) := by decide +kernel
theorem dX4_isAhead_40 : decode cX4_isAhead 40 = .ok (.iload_n 1, 1) := by decide +kernel
theorem dX4_isAhead_41 : decode cX4_isAhead 41 = .ok (.iaload, 1) := by decide +kernel
theorem dX4_isAhead_42 : decode cX4_isAhead 42 = .ok (.aload_n 0, 1) := by decide +kernel
theorem dX4_isAhead_43 : decode cX4_isAhead 43 = .ok (.getfield 74, 3) := by decide +kernel
theorem dX4_isAhead_46 : decode cX4_isAhead 46 = .ok (.iload_n 2, 1) := by decide +kernel
theorem dX4_isAhead_47 : decode cX4_isAhead 47 = .ok (.iaload, 1) := by decide +kernel
theorem dX4_isAhead_48 : decode cX4_isAhead 48 = .ok (.if_icmp .eq 26, 3) := by decide +kernel
theorem dX4_isAhead_51 : decode cX4_isAhead 51 = .ok (.aload_n 0, 1) := by decide +kernel
theorem dX4_isAhead_52 : decode cX4_isAhead 52 = .ok (.getfield 74, 3) := by decide +kernel
theorem dX4_isAhead_55 : decode cX4_isAhead 55 = .ok (.iload_n 1, 1) := by decide +kernel
theorem dX4_isAhead_56 : decode cX4_isAhead 56 = .ok (.iaload, 1) := by decide +kernel
theorem dX4_isAhead_57 : decode cX4_isAhead 57 = .ok (.aload_n 0, 1) := by decide +kernel
theorem dX4_isAhead_58 : decode cX4_isAhead 58 = .ok (.getfield 74, 3) := by decide +kernel
theorem dX4_isAhead_61 : decode cX4_isAhead 61 = .ok (.iload_n 2, 1) := by decide +kernel
theorem dX4_isAhead_62 : decode cX4_isAhead 62 = .ok (.iaload, 1) := by decide +kernel
theorem dX4_isAhead_63 : decode cX4_isAhead 63 = .ok (.if_icmp .ge 7, 3) := by decide +kernel
theorem dX4_isAhead_66 : decode cX4_isAhead 66 = .ok (.iconst 1, 1) := by decide +kernel
theorem dX4_isAhead_67 : decode cX4_isAhead 67 = .ok (.goto 17, 3) := by decide +kernel
theorem dX4_isAhead_70 : decode cX4_isAhead 70 = .ok (.iconst 0, 1) := by decide +kernel
theorem dX4_isAhead_71 : decode cX4_isAhead 71 = .ok (.goto 13, 3) := by decide +kernel
theorem dX4_isAhead_74 : decode cX4_isAhead 74 = .ok (.iload_n 1, 1) := by decide +kernel
theorem dX4_isAhead_75 : decode cX4_isAhead 75 = .ok (.iload_n 2, 1) := by decide +kernel
theorem dX4_isAhead_76 : decode cX4_isAhead 76 = .ok (.if_icmp .ge 7, 3) := by decide +kernel
theorem dX4_isAhead_79 : decode cX4_isAhead 79 = .ok (.iconst 1, 1) := by decide +kernel
theorem dX4_isAhead_80 : decode cX4_isAhead 80 = .ok (.goto 4, 3) := by decide +kernel
theorem dX4_isAhead_83 : decode cX4_isAhead 83 = .ok (.iconst 0, 1) := by decide +kernel
theorem dX4_isAhead_84 : decode cX4_isAhead 84 = .ok (.ireturn, 1) := by decide +kernel
set_option maxRecDepth 20000 in
theorem ggX4_line_X4_isAhead : GoodIn wsX4_line wsX4_isAhead := goodIn_r _ [9, 10, 11, 12, 13, 14, 15, 16, 17, 18, 19, 20, 21, 22, 23, 24, 25, 26, 27, 28, 29, 30, 31, 32, 33, 34, 35, 36, 37, 38, 39, 40, 41, 42, 43, 44, 45, 46, 47, 48, 49, 50, 51, 52, 53, 54] (by decide +kernel) (by decide +kernel)
set_option maxRecDepth 20000 in
theorem gX4_line_X4_isAhead : GoodIn wsX4_line (wsV RX4 215 RX4 yX4_isAhead wsX4_isAhead) := goodIn_app (goodIn_of _ (by decide +kernel)) ggX4_line_X4_isAhead
theorem dX4_line_0 : decode cX4_line 0 = .ok (.aload_n 0, 1) := by decide +kernel
theorem dX4_line_1 : decode cX4_line 1 = .ok (.iconst 0, 1) := by decide +kernel
theorem dX4_line_2 : decode cX4_line 2 = .ok (.putfield 212, 3) := by decide +kernel
theorem dX4_line_5 : decode cX4_line 5 = .ok (.iconst 0, 1) := by decide +kernel
theorem dX4_line_6 : decode cX4_line 6 = .ok (.istore_n 1, 1) := by decide +kernel
theorem dX4_line_7 : decode cX4_line 7 = .ok (.iload_n 1, 1) := by decide +kernel
theorem dX4_line_8 : decode cX4_line 8 = .ok (.aload_n 0, 1) := by decide +kernel
theorem dX4_line_9 : decode cX4_line 9 = .ok (.getfield 121, 3) := by decide +kernel
theorem dX4_line_12 : decode cX4_line 12 = .ok (.if_icmp .ge 83, 3) := by decide +kernel
theorem dX4_line_15 : decode cX4_line 15 = .ok (.aload_n 0, 1) := by decide +kernel
theorem dX4_line_16 : decode cX4_line 16 = .ok (.getfield 77, 3) := by decide +kernel
theorem dX4_line_19 : decode cX4_line 19 = .ok (.iload_n 1, 1) := by decide +kernel
theorem dX4_line_20 : decode cX4_line 20 = .ok (.iaload, 1) := by decide +kernel
theorem dX4_line_21 : decode cX4_line 21 = .ok (.ifCond .eq 6, 3) := by decide +kernel
theorem dX4_line_24 : decode cX4_line 24 = .ok (.goto 65, 3) := by decide +kernel
theorem dX4_line_27 : decode cX4_line 27 = .ok (.aload_n 0, 1) := by decide +kernel
theorem dX4_line_28 : decode cX4_line 28 = .ok (.getfield 212, 3) := by decide +kernel
theorem dX4_line_31 : decode cX4_line 31 = .ok (.istore_n 2, 1) := by decide +kernel
theorem dX4_line_32 : decode cX4_line 32 = .ok (.iload_n 2, 1) := by decide +kernel
theorem dX4_line_33 : decode cX4_line 33 = .ok (.ifCond .le 39, 3) := by decide +kernel
theorem dX4_line_36 : decode cX4_line 36 = .ok (.aload_n 0, 1) := by decide +kernel
theorem dX4_line_37 : decode cX4_line 37 = .ok (.iload_n 1, 1) := by decide +kernel
theorem dX4_line_38 : decode cX4_line 38 = .ok (.aload_n 0, 1) := by decide +kernel
theorem dX4_line_39 : decode cX4_line 39 = .ok (.getfield 111, 3) := by decide +kernel
theorem dX4_line_42 : decode cX4_line 42 = .ok (.iload_n 2, 1) := by decide +kernel
theorem dX4_line_43 : decode cX4_line 43 = .ok (.iconst 1, 1) := by decide +kernel
theorem dX4_line_44 : decode cX4_line 44 = .ok (.isub, 1) := by decide +kernel
theorem dX4_line_45 : decode cX4_line 45 = .ok (.iaload, 1) := by decide +kernel
theorem dX4_line_46 : decode cX4_line 46 = .ok (.invokevirtual 215, 3) := by decide +kernel
theorem dX4_line_49 : decode cX4_line 49 = .ok (.ifCond .eq 23, 3) := by decide +kernel
theorem dX4_line_52 : decode cX4_line 52 = .ok (.aload_n 0, 1) := by decide +kernel
theorem dX4_line_53 : decode cX4_line 53 = .ok (.getfield 111, 3) := by decide +kernel
theorem dX4_line_56 : decode cX4_line 56 = .ok (.iload_n 2, 1) := by decide +kernel
theorem dX4_line_57 : decode cX4_line 57 = .ok (.aload_n 0, 1) := by decide +kernel
theorem dX4_line_58 : decode cX4_line 58 = .ok (.getfield 111, 3) := by decide +kernel
theorem dX4_line_61 : decode cX4_line 61 = .ok (.iload_n 2, 1) := by decide +kernel
theorem dX4_line_62 : decode cX4_line 62 = .ok (.iconst 1, 1) := by decide +kernel
theorem dX4_line_63 : decode cX4_line 63 = .ok (.isub, 1) := by decide +kernel
theorem dX4_line_64 : decode cX4_line 64 = .ok (.iaload, 1) := by decide +kernel
theorem dX4_line_65 : decode cX4_line 65 = .ok (.iastore, 1) := by decide +kernel
theorem dX4_line_66 : decode cX4_line 66 = .ok (.iinc 2 (-1), 3) := by decide +kernel
theorem dX4_line_69 : decode cX4_line 69 = .ok (.goto (-37), 3) := by decide +kernel
theorem dX4_line_72 : decode cX4_line 72 = .ok (.aload_n 0, 1) := by decide +kernel
theorem dX4_line_73 : decode cX4_line 73 = .ok (.getfield 111, 3) := by decide +kernel
theorem dX4_line_76 : decode cX4_line 76 = .ok (.iload_n 2, 1) := by decide +kernel
theorem dX4_line_77 : decode cX4_line 77 = .ok (.iload_n 1, 1) := by decide +kernel
theorem dX4_line_78 : decode cX4_line 78 = .ok (.iastore, 1) := by decide +kernel
theorem dX4_line_79 : decode cX4_line 79 = .ok (.aload_n 0, 1) := by decide +kernel
theorem dX4_line_80 : decode cX4_line 80 = .ok (.dup, 1) := by decide +kernel
theorem dX4_line_81 : decode cX4_line 81 = .ok (.getfield 212, 3) := by decide +kernel
theorem dX4_line_84 : decode cX4_line 84 = .ok (.iconst 1, 1) := by decide +kernel
theorem dX4_line_85 : decode cX4_line 85 = .ok (.iadd, 1) := by decide +kernel
theorem dX4_line_86 : decode cX4_line 86 = .ok (.putfield 212, 3) := by decide +kernel
theorem dX4_line_89 : decode cX4_line 89 = .ok (.iinc 1 1, 3) := by decide +kernel
theorem dX4_line_92 : decode cX4_line 92 = .ok (.goto (-85), 3) := by decide +kernel
theorem dX4_line_95 : decode cX4_line 95 = .ok (.return_, 1) := by decide +kernel
set_option maxRecDepth 20000 in
theorem ggX4_goesOn_X4_comesBack : GoodIn wsX4_goesOn wsX4_comesBack := goodIn_r _ [15, 16, 17, 18, 1, 19, 20, 21, 22, 23, 24, 2, 3, 25, 26, 27, 14, 28, 29, 30, 31, 5, 32, 33, 34, 35, 36, 37, 38, 39, 40, 10, 41, 42, 43, 44, 45, 46, 47, 6, 48, 49, 50, 51, 52, 53, 54, 55, 56, 4, 125, 126, 127, 128, 129, 130, 131, 132, 133, 134, 135, 136, 137, 138, 139, 140, 141, 142, 143, 144, 145, 146, 147, 148, 149, 150, 151, 152, 153, 154, 155, 156, 157, 158, 159, 160, 161, 162, 163, 164, 165, 166, 167] (by decide +kernel) (by decide +kernel)
set_option maxRecDepth 20000 in
theorem gX4_goesOn_X4_comesBack : GoodIn wsX4_goesOn (wsV RX4 218 RX4 yX4_comesBack wsX4_comesBack) := goodIn_app (goodIn_of _ (by decide +kernel)) ggX4_goesOn_X4_comesBack
set_option maxRecDepth 20000 in
theorem ggX4_goesOn_X4_isDue : GoodIn wsX4_goesOn wsX4_isDue := goodIn_r _ [60, 22, 1, 3, 16, 17, 37, 38, 39, 14, 40, 10, 41, 18, 19, 42, 43, 44, 45, 46, 30, 5, 47, 6, 31, 48, 49, 50, 51, 52, 53, 54, 55, 56, 4, 32, 33, 34, 35, 36, 125, 126, 127, 128, 129, 130, 131, 132, 133, 134, 135, 136, 137, 138, 139, 140, 141, 142, 143, 144, 145, 146, 147, 148, 149, 150, 151, 152, 153, 154, 155, 156, 157, 158, 159, 160, 161, 162, 163, 164, 165, 166, 167] (by decide +kernel) (by decide +kernel)
set_option maxRecDepth 20000 in
theorem gX4_goesOn_X4_isDue : GoodIn wsX4_goesOn (wsV RX4 221 RX4 yX4_isDue wsX4_isDue) := goodIn_app (goodIn_of _ (by decide +kernel)) ggX4_goesOn_X4_isDue
set_option maxRecDepth 20000 in
theorem ggX4_goesOn_X4_hedges : GoodIn wsX4_goesOn wsX4_hedges := goodIn_r _ [64, 3, 21, 16, 41, 7, 1, 65, 66, 67, 68, 69, 14, 70, 4, 10, 71, 5, 72, 73, 74, 75, 76, 77, 78, 79, 80, 81, 82, 17, 18, 83, 84, 85, 19, 86, 125, 126, 127, 128, 129, 130, 131, 132, 133, 134, 135, 136, 137, 138, 139, 140, 141, 142, 143, 144, 145, 146, 147, 148, 149, 150, 151, 152, 153, 154, 155, 156, 157, 158, 159, 160, 161, 162, 163, 164, 165, 166, 167] (by decide +kernel) (by decide +kernel)
set_option maxRecDepth 20000 in
theorem gX4_goesOn_X4_hedges : GoodIn wsX4_goesOn (wsV RX4 224 RX4 yX4_hedges wsX4_hedges) := goodIn_app (goodIn_of _ (by decide +kernel)) ggX4_goesOn_X4_hedges
set_option maxRecDepth 20000 in
theorem ggX4_goesOn_X4_line : GoodIn wsX4_goesOn wsX4_line := goodIn_r _ [90, 8, 2, 3, 9, 91, 92, 93, 14, 94, 95, 22, 125, 126, 127, 128, 129, 130, 131, 132, 133, 134, 135, 136, 137, 138, 139, 140, 141, 142, 143, 144, 145, 146, 147, 148, 149, 150, 151, 152, 153, 154, 155, 156, 157, 158, 159, 160, 161, 162, 163, 164, 165, 166, 167] (by decide +kernel) (by decide +kernel)
set_option maxRecDepth 20000 in
theorem gX4_goesOn_X4_line : GoodIn wsX4_goesOn (wsV RX4 227 RX4 yX4_line wsX4_line) := goodIn_app (goodIn_of _ (by decide +kernel)) ggX4_goesOn_X4_line
set_option maxRecDepth 20000 in
theorem ggX4_goesOn_X4_asksFor : GoodIn wsX4_goesOn wsX4_asksFor := goodIn_r _ [99, 65, 100, 67, 68, 69, 14, 70, 4, 10, 71, 5, 101, 102, 103, 104, 105, 106, 107, 108, 109, 76, 110, 72, 73, 74, 75, 111, 112, 113, 114, 115, 116, 117, 118, 119, 120, 121, 122, 123, 124, 77, 78, 79, 80, 81, 82, 16, 17, 41, 1, 18, 83, 84, 85, 19, 86, 3, 125, 126, 127, 128, 129, 130, 131, 132, 133, 134, 135, 136, 137, 138, 139, 140, 141, 142, 143, 144, 145, 146, 147, 148, 149, 150, 151, 152, 153, 154, 155, 156, 157, 158, 159, 160, 161, 162, 163, 164, 165, 166, 167] (by decide +kernel) (by decide +kernel)
set_option maxRecDepth 20000 in
theorem gX4_goesOn_X4_asksFor : GoodIn wsX4_goesOn (wsV RX4 178 RX4 yX4_asksFor wsX4_asksFor) := goodIn_app (goodIn_of _ (by decide +kernel)) ggX4_goesOn_X4_asksFor
theorem dX4_goesOn_0 : decode cX4_goesOn 0 = .ok (.aload_n 0, 1) := by decide +kernel
theorem dX4_goesOn_1 : decode cX4_goesOn 1 = .ok (.dup, 1) := by decide +kernel
theorem dX4_goesOn_2 : decode cX4_goesOn 2 = .ok (.getfield 163, 3) := by decide +kernel
theorem dX4_goesOn_5 : decode cX4_goesOn 5 = .ok (.iconst 1, 1) := by decide +kernel
theorem dX4_goesOn_6 : decode cX4_goesOn 6 = .ok (.iadd, 1) := by decide +kernel
theorem dX4_goesOn_7 : decode cX4_goesOn 7 = .ok (.putfield 163, 3) := by decide +kernel
theorem dX4_goesOn_10 : decode cX4_goesOn 10 = .ok (.iconst 0, 1) := by decide +kernel
theorem dX4_goesOn_11 : decode cX4_goesOn 11 = .ok (.istore_n 1, 1) := by decide +kernel
theorem dX4_goesOn_12 : decode cX4_goesOn 12 = .ok (.iconst 0, 1) := by decide +kernel
theorem dX4_goesOn_13 : decode cX4_goesOn 13 = .ok (.istore_n 2, 1) := by decide +kernel
theorem dX4_goesOn_14 : decode cX4_goesOn 14 = .ok (.iload_n 2, 1) := by decide +kernel
theorem dX4_goesOn_15 : decode cX4_goesOn 15 = .ok (.aload_n 0, 1) := by decide +kernel
theorem dX4_goesOn_16 : decode cX4_goesOn 16 = .ok (.getfield 121, 3) := by decide +kernel
theorem dX4_goesOn_19 : decode cX4_goesOn 19 = .ok (.if_icmp .ge 35, 3) := by decide +kernel
theorem dX4_goesOn_22 : decode cX4_goesOn 22 = .ok (.iload_n 1, 1) := by decide +kernel
theorem dX4_goesOn_23 : decode cX4_goesOn 23 = .ok (.aload_n 0, 1) := by decide +kernel
theorem dX4_goesOn_24 : decode cX4_goesOn 24 = .ok (.getfield 77, 3) := by decide +kernel
theorem dX4_goesOn_27 : decode cX4_goesOn 27 = .ok (.iload_n 2, 1) := by decide +kernel
theorem dX4_goesOn_28 : decode cX4_goesOn 28 = .ok (.iaload, 1) := by decide +kernel
theorem dX4_goesOn_29 : decode cX4_goesOn 29 = .ok (.iconst 1, 1) := by decide +kernel
theorem dX4_goesOn_30 : decode cX4_goesOn 30 = .ok (.if_icmp .ne 15, 3) := by decide +kernel
theorem dX4_goesOn_33 : decode cX4_goesOn 33 = .ok (.aload_n 0, 1) := by decide +kernel
theorem dX4_goesOn_34 : decode cX4_goesOn 34 = .ok (.iload_n 2, 1) := by decide +kernel
theorem dX4_goesOn_35 : decode cX4_goesOn 35 = .ok (.invokevirtual 218, 3) := by decide +kernel
theorem dX4_goesOn_38 : decode cX4_goesOn 38 = .ok (.ifCond .eq 7, 3) := by decide +kernel
theorem dX4_goesOn_41 : decode cX4_goesOn 41 = .ok (.iconst 1, 1) := by decide +kernel
theorem dX4_goesOn_42 : decode cX4_goesOn 42 = .ok (.goto 4, 3) := by decide +kernel
theorem dX4_goesOn_45 : decode cX4_goesOn 45 = .ok (.iconst 0, 1) := by decide +kernel
theorem dX4_goesOn_46 : decode cX4_goesOn 46 = .ok (.iadd, 1) := by decide +kernel
theorem dX4_goesOn_47 : decode cX4_goesOn 47 = .ok (.istore_n 1, 1) := by decide +kernel
theorem dX4_goesOn_48 : decode cX4_goesOn 48 = .ok (.iinc 2 1, 3) := by decide +kernel
theorem dX4_goesOn_51 : decode cX4_goesOn 51 = .ok (.goto (-37), 3) := by decide +kernel
theorem dX4_goesOn_54 : decode cX4_goesOn 54 = .ok (.iconst 0, 1) := by decide +kernel
theorem dX4_goesOn_55 : decode cX4_goesOn 55 = .ok (.istore_n 2, 1) := by decide +kernel
theorem dX4_goesOn_56 : decode cX4_goesOn 56 = .ok (.iload_n 2, 1) := by decide +kernel
theorem dX4_goesOn_57 : decode cX4_goesOn 57 = .ok (.aload_n 0, 1) := by decide +kernel
theorem dX4_goesOn_58 : decode cX4_goesOn 58 = .ok (.getfield 121, 3) := by decide +kernel
theorem dX4_goesOn_61 : decode cX4_goesOn 61 = .ok (.if_icmp .ge 25, 3) := by decide +kernel
theorem dX4_goesOn_64 : decode cX4_goesOn 64 = .ok (.iload_n 1, 1) := by decide +kernel
theorem dX4_goesOn_65 : decode cX4_goesOn 65 = .ok (.aload_n 0, 1) := by decide +kernel
theorem dX4_goesOn_66 : decode cX4_goesOn 66 = .ok (.iload_n 2, 1) := by decide +kernel
theorem dX4_goesOn_67 : decode cX4_goesOn 67 = .ok (.invokevirtual 221, 3) := by decide +kernel
theorem dX4_goesOn_70 : decode cX4_goesOn 70 = .ok (.ifCond .eq 7, 3) := by decide +kernel
theorem dX4_goesOn_73 : decode cX4_goesOn 73 = .ok (.iconst 1, 1) := by decide +kernel
theorem dX4_goesOn_74 : decode cX4_goesOn 74 = .ok (.goto 4, 3) := by decide +kernel
theorem dX4_goesOn_77 : decode cX4_goesOn 77 = .ok (.iconst 0, 1) := by decide +kernel
theorem dX4_goesOn_78 : decode cX4_goesOn 78 = .ok (.iadd, 1) := by decide +kernel
theorem dX4_goesOn_79 : decode cX4_goesOn 79 = .ok (.istore_n 1, 1) := by decide +kernel
theorem dX4_goesOn_80 : decode cX4_goesOn 80 = .ok (.iinc 2 1, 3) := by decide +kernel
theorem dX4_goesOn_83 : decode cX4_goesOn 83 = .ok (.goto (-27), 3) := by decide +kernel
theorem dX4_goesOn_86 : decode cX4_goesOn 86 = .ok (.iconst 0, 1) := by decide +kernel
theorem dX4_goesOn_87 : decode cX4_goesOn 87 = .ok (.istore_n 2, 1) := by decide +kernel
theorem dX4_goesOn_88 : decode cX4_goesOn 88 = .ok (.iload_n 2, 1) := by decide +kernel
theorem dX4_goesOn_89 : decode cX4_goesOn 89 = .ok (.aload_n 0, 1) := by decide +kernel
theorem dX4_goesOn_90 : decode cX4_goesOn 90 = .ok (.getfield 114, 3) := by decide +kernel
theorem dX4_goesOn_93 : decode cX4_goesOn 93 = .ok (.if_icmp .ge 39, 3) := by decide +kernel
theorem dX4_goesOn_96 : decode cX4_goesOn 96 = .ok (.aload_n 0, 1) := by decide +kernel
theorem dX4_goesOn_97 : decode cX4_goesOn 97 = .ok (.getfield 38, 3) := by decide +kernel
theorem dX4_goesOn_100 : decode cX4_goesOn 100 = .ok (.iload_n 2, 1) := by decide +kernel
theorem dX4_goesOn_101 : decode cX4_goesOn 101 = .ok (.iaload, 1) := by decide +kernel
theorem dX4_goesOn_102 : decode cX4_goesOn 102 = .ok (.iconst 1, 1) := by decide +kernel
theorem dX4_goesOn_103 : decode cX4_goesOn 103 = .ok (.if_icmp .ne 23, 3) := by decide +kernel
theorem dX4_goesOn_106 : decode cX4_goesOn 106 = .ok (.aload_n 0, 1) := by decide +kernel
theorem dX4_goesOn_107 : decode cX4_goesOn 107 = .ok (.getfield 56, 3) := by decide +kernel
theorem dX4_goesOn_110 : decode cX4_goesOn 110 = .ok (.iload_n 2, 1) := by decide +kernel
theorem dX4_goesOn_111 : decode cX4_goesOn 111 = .ok (.iaload, 1) := by decide +kernel
theorem dX4_goesOn_112 : decode cX4_goesOn 112 = .ok (.aload_n 0, 1) := by decide +kernel
theorem dX4_goesOn_113 : decode cX4_goesOn 113 = .ok (.getfield 163, 3) := by decide +kernel
theorem dX4_goesOn_116 : decode cX4_goesOn 116 = .ok (.if_icmp .gt 10, 3) := by decide +kernel
theorem dX4_goesOn_119 : decode cX4_goesOn 119 = .ok (.aload_n 0, 1) := by decide +kernel
theorem dX4_goesOn_120 : decode cX4_goesOn 120 = .ok (.getfield 38, 3) := by decide +kernel
theorem dX4_goesOn_123 : decode cX4_goesOn 123 = .ok (.iload_n 2, 1) := by decide +kernel
theorem dX4_goesOn_124 : decode cX4_goesOn 124 = .ok (.iconst 2, 1) := by decide +kernel
theorem dX4_goesOn_125 : decode cX4_goesOn 125 = .ok (.iastore, 1) := by decide +kernel
theorem dX4_goesOn_126 : decode cX4_goesOn 126 = .ok (.iinc 2 1, 3) := by decide +kernel
theorem dX4_goesOn_129 : decode cX4_goesOn 129 = .ok (.goto (-41), 3) := by decide +kernel
theorem dX4_goesOn_132 : decode cX4_goesOn 132 = .ok (.iconst 0, 1) := by decide +kernel
theorem dX4_goesOn_133 : decode cX4_goesOn 133 = .ok (.istore_n 2, 1) := by decide +kernel
theorem dX4_goesOn_134 : decode cX4_goesOn 134 = .ok (.iload_n 2, 1) := by decide +kernel
theorem dX4_goesOn_135 : decode cX4_goesOn 135 = .ok (.aload_n 0, 1) := by decide +kernel
theorem dX4_goesOn_136 : decode cX4_goesOn 136 = .ok (.getfield 121, 3) := by decide +kernel
theorem dX4_goesOn_139 : decode cX4_goesOn 139 = .ok (.if_icmp .ge 21, 3) := by decide +kernel
theorem dX4_goesOn_142 : decode cX4_goesOn 142 = .ok (.aload_n 0, 1) := by decide +kernel
theorem dX4_goesOn_143 : decode cX4_goesOn 143 = .ok (.getfield 139, 3) := by decide +kernel
theorem dX4_goesOn_146 : decode cX4_goesOn 146 = .ok (.ifCond .le 14, 3) := by decide +kernel
theorem dX4_goesOn_149 : decode cX4_goesOn 149 = .ok (.aload_n 0, 1) := by decide +kernel
theorem dX4_goesOn_150 : decode cX4_goesOn 150 = .ok (.iload_n 2, 1) := by decide +kernel
theorem dX4_goesOn_151 : decode cX4_goesOn 151 = .ok (.invokevirtual 224, 3) := by decide +kernel
theorem dX4_goesOn_154 : decode cX4_goesOn 154 = .ok (.iinc 2 1, 3) := by decide +kernel
theorem dX4_goesOn_157 : decode cX4_goesOn 157 = .ok (.goto (-23), 3) := by decide +kernel
theorem dX4_goesOn_160 : decode cX4_goesOn 160 = .ok (.aload_n 0, 1) := by decide +kernel
theorem dX4_goesOn_161 : decode cX4_goesOn 161 = .ok (.invokevirtual 227, 3) := by decide +kernel
theorem dX4_goesOn_164 : decode cX4_goesOn 164 = .ok (.iconst 0, 1) := by decide +kernel
theorem dX4_goesOn_165 : decode cX4_goesOn 165 = .ok (.istore_n 2, 1) := by decide +kernel
theorem dX4_goesOn_166 : decode cX4_goesOn 166 = .ok (.iload_n 2, 1) := by decide +kernel
theorem dX4_goesOn_167 : decode cX4_goesOn 167 = .ok (.aload_n 0, 1) := by decide +kernel
theorem dX4_goesOn_168 : decode cX4_goesOn 168 = .ok (.getfield 212, 3) := by decide +kernel
theorem dX4_goesOn_171 : decode cX4_goesOn 171 = .ok (.if_icmp .ge 20, 3) := by decide +kernel
theorem dX4_goesOn_174 : decode cX4_goesOn 174 = .ok (.aload_n 0, 1) := by decide +kernel
theorem dX4_goesOn_175 : decode cX4_goesOn 175 = .ok (.aload_n 0, 1) := by decide +kernel
theorem dX4_goesOn_176 : decode cX4_goesOn 176 = .ok (.getfield 111, 3) := by decide +kernel
theorem dX4_goesOn_179 : decode cX4_goesOn 179 = .ok (.iload_n 2, 1) := by decide +kernel
theorem dX4_goesOn_180 : decode cX4_goesOn 180 = .ok (.iaload, 1) := by decide +kernel
theorem dX4_goesOn_181 : decode cX4_goesOn 181 = .ok (.invokevirtual 178, 3) := by decide +kernel
theorem dX4_goesOn_184 : decode cX4_goesOn 184 = .ok (.istore_n 3, 1) := by decide +kernel
theorem dX4_goesOn_185 : decode cX4_goesOn 185 = .ok (.iinc 2 1, 3) := by decide +kernel
theorem dX4_goesOn_188 : decode cX4_goesOn 188 = .ok (.goto (-22), 3) := by decide +kernel
theorem dX4_goesOn_191 : decode cX4_goesOn 191 = .ok (.iconst 0, 1) := by decide +kernel
theorem dX4_goesOn_192 : decode cX4_goesOn 192 = .ok (.istore_n 2, 1) := by decide +kernel
theorem dX4_goesOn_193 : decode cX4_goesOn 193 = .ok (.iload_n 2, 1) := by decide +kernel
theorem dX4_goesOn_194 : decode cX4_goesOn 194 = .ok (.aload_n 0, 1) := by decide +kernel
theorem dX4_goesOn_195 : decode cX4_goesOn 195 = .ok (.getfield 114, 3) := by decide +kernel
theorem dX4_goesOn_198 : decode cX4_goesOn 198 = .ok (.if_icmp .ge 35, 3) := by decide +kernel
theorem dX4_goesOn_201 : decode cX4_goesOn 201 = .ok (.aload_n 0, 1) := by decide +kernel
theorem dX4_goesOn_202 : decode cX4_goesOn 202 = .ok (.getfield 38, 3) := by decide +kernel
theorem dX4_goesOn_205 : decode cX4_goesOn 205 = .ok (.iload_n 2, 1) := by decide +kernel
theorem dX4_goesOn_206 : decode cX4_goesOn 206 = .ok (.iaload, 1) := by decide +kernel
theorem dX4_goesOn_207 : decode cX4_goesOn 207 = .ok (.iconst 3, 1) := by decide +kernel
theorem dX4_goesOn_208 : decode cX4_goesOn 208 = .ok (.if_icmp .ne 19, 3) := by decide +kernel
theorem dX4_goesOn_211 : decode cX4_goesOn 211 = .ok (.aload_n 0, 1) := by decide +kernel
theorem dX4_goesOn_212 : decode cX4_goesOn 212 = .ok (.getfield 41, 3) := by decide +kernel
theorem dX4_goesOn_215 : decode cX4_goesOn 215 = .ok (.iload_n 2, 1) := by decide +kernel
theorem dX4_goesOn_216 : decode cX4_goesOn 216 = .ok (.iaload, 1) := by decide +kernel
theorem dX4_goesOn_217 : decode cX4_goesOn 217 = .ok (.ifCond .ne 10, 3) := by decide +kernel
theorem dX4_goesOn_220 : decode cX4_goesOn 220 = .ok (.aload_n 0, 1) := by decide +kernel
theorem dX4_goesOn_221 : decode cX4_goesOn 221 = .ok (.getfield 38, 3) := by decide +kernel
theorem dX4_goesOn_224 : decode cX4_goesOn 224 = .ok (.iload_n 2, 1) := by decide +kernel
theorem dX4_goesOn_225 : decode cX4_goesOn 225 = .ok (.iconst 4, 1) := by decide +kernel
theorem dX4_goesOn_226 : decode cX4_goesOn 226 = .ok (.iastore, 1) := by decide +kernel
theorem dX4_goesOn_227 : decode cX4_goesOn 227 = .ok (.iinc 2 1, 3) := by decide +kernel
theorem dX4_goesOn_230 : decode cX4_goesOn 230 = .ok (.goto (-37), 3) := by decide +kernel
theorem dX4_goesOn_233 : decode cX4_goesOn 233 = .ok (.iload_n 1, 1) := by decide +kernel
theorem dX4_goesOn_234 : decode cX4_goesOn 234 = .ok (.ireturn, 1) := by decide +kernel
set_option maxRecDepth 20000 in
theorem ggX4_ticks_X4_refuse : GoodIn wsX4_ticks wsX4_refuse := goodIn_r _ [6, 7, 134, 135, 136, 137, 138, 139, 140, 141, 142, 143, 144, 145, 146, 147, 148, 149, 150, 151, 152, 153, 154, 155, 156, 157, 158, 159, 160, 161, 162, 163, 164, 165, 166, 167, 168, 169, 170, 171, 172, 173, 174, 175, 176] (by decide +kernel) (by decide +kernel)
set_option maxRecDepth 20000 in
theorem gX4_ticks_X4_refuse : GoodIn wsX4_ticks (wsV RX4 124 RX4 yX4_refuse wsX4_refuse) := goodIn_app (goodIn_of _ (by decide +kernel)) ggX4_ticks_X4_refuse
set_option maxRecDepth 20000 in
theorem ggX4_ticks_X4_goesOn : GoodIn wsX4_ticks wsX4_goesOn := goodIn_r _ [11, 1, 12, 13, 14, 15, 16, 17, 18, 19, 20, 21, 22, 23, 5, 24, 25, 26, 27, 28, 29, 30, 31, 32, 33, 34, 35, 36, 37, 38, 39, 40, 41, 42, 43, 44, 45, 46, 47, 48, 49, 50, 51, 52, 53, 54, 55, 56, 57, 58, 59, 60, 61, 62, 63, 64, 65, 66, 67, 68, 69, 70, 71, 72, 73, 74, 75, 76, 77, 78, 79, 80, 81, 82, 83, 84, 85, 86, 87, 88, 89, 90, 91, 92, 93, 94, 95, 96, 97, 98, 99, 100, 101, 102, 103, 104, 105, 106, 107, 108, 109, 110, 111, 112, 113, 114, 115, 116, 117, 118, 119, 120, 121, 122, 123, 124, 125, 126, 127, 128, 129, 130, 131, 132, 133, 134, 135, 136, 137, 138, 139, 140, 141, 142, 143, 144, 145, 146, 147, 148, 149, 150, 151, 152, 153, 154, 155, 156, 157, 158, 159, 160, 161, 162, 163, 164, 165, 166, 167, 168, 169, 170, 171, 172, 173, 174, 175, 176] (by decide +kernel) (by decide +kernel)
set_option maxRecDepth 20000 in
theorem gX4_ticks_X4_goesOn : GoodIn wsX4_ticks (wsV RX4 230 RX4 yX4_goesOn wsX4_goesOn) := goodIn_app (goodIn_of _ (by decide +kernel)) ggX4_ticks_X4_goesOn
theorem dX4_ticks_0 : decode cX4_ticks 0 = .ok (.iload_n 1, 1) := by decide +kernel
theorem dX4_ticks_1 : decode cX4_ticks 1 = .ok (.iconst 1, 1) := by decide +kernel
theorem dX4_ticks_2 : decode cX4_ticks 2 = .ok (.if_icmp .ge 10, 3) := by decide +kernel
theorem dX4_ticks_5 : decode cX4_ticks 5 = .ok (.aload_n 0, 1) := by decide +kernel
theorem dX4_ticks_6 : decode cX4_ticks 6 = .ok (.bipush (-4), 2) := by decide +kernel
theorem dX4_ticks_8 : decode cX4_ticks 8 = .ok (.invokevirtual 124, 3) := by decide +kernel
theorem dX4_ticks_11 : decode cX4_ticks 11 = .ok (.ireturn, 1) := by decide +kernel
theorem dX4_ticks_12 : decode cX4_ticks 12 = .ok (.iload_n 1, 1) := by decide +kernel
theorem dX4_ticks_13 : decode cX4_ticks 13 = .ok (.sipush 20000, 3) := by decide +kernel
theorem dX4_ticks_16 : decode cX4_ticks 16 = .ok (.aload_n 0, 1) := by decide +kernel
theorem dX4_ticks_17 : decode cX4_ticks 17 = .ok (.getfield 163, 3) := by decide +kernel
theorem dX4_ticks_20 : decode cX4_ticks 20 = .ok (.isub, 1) := by decide +kernel
theorem dX4_ticks_21 : decode cX4_ticks 21 = .ok (.if_icmp .le 10, 3) := by decide +kernel
theorem dX4_ticks_24 : decode cX4_ticks 24 = .ok (.aload_n 0, 1) := by decide +kernel
theorem dX4_ticks_25 : decode cX4_ticks 25 = .ok (.bipush (-6), 2) := by decide +kernel
theorem dX4_ticks_27 : decode cX4_ticks 27 = .ok (.invokevirtual 124, 3) := by decide +kernel
theorem dX4_ticks_30 : decode cX4_ticks 30 = .ok (.ireturn, 1) := by decide +kernel
theorem dX4_ticks_31 : decode cX4_ticks 31 = .ok (.iconst 0, 1) := by decide +kernel
theorem dX4_ticks_32 : decode cX4_ticks 32 = .ok (.istore_n 2, 1) := by decide +kernel
theorem dX4_ticks_33 : decode cX4_ticks 33 = .ok (.iconst 0, 1) := by decide +kernel
theorem dX4_ticks_34 : decode cX4_ticks 34 = .ok (.istore_n 3, 1) := by decide +kernel
theorem dX4_ticks_35 : decode cX4_ticks 35 = .ok (.iload_n 3, 1) := by decide +kernel
theorem dX4_ticks_36 : decode cX4_ticks 36 = .ok (.iload_n 1, 1) := by decide +kernel
theorem dX4_ticks_37 : decode cX4_ticks 37 = .ok (.if_icmp .ge 16, 3) := by decide +kernel
theorem dX4_ticks_40 : decode cX4_ticks 40 = .ok (.iload_n 2, 1) := by decide +kernel
theorem dX4_ticks_41 : decode cX4_ticks 41 = .ok (.aload_n 0, 1) := by decide +kernel
theorem dX4_ticks_42 : decode cX4_ticks 42 = .ok (.invokevirtual 230, 3) := by decide +kernel
theorem dX4_ticks_45 : decode cX4_ticks 45 = .ok (.iadd, 1) := by decide +kernel
theorem dX4_ticks_46 : decode cX4_ticks 46 = .ok (.istore_n 2, 1) := by decide +kernel
theorem dX4_ticks_47 : decode cX4_ticks 47 = .ok (.iinc 3 1, 3) := by decide +kernel
theorem dX4_ticks_50 : decode cX4_ticks 50 = .ok (.goto (-15), 3) := by decide +kernel
theorem dX4_ticks_53 : decode cX4_ticks 53 = .ok (.iload_n 2, 1) := by decide +kernel
theorem dX4_ticks_54 : decode cX4_ticks 54 = .ok (.ireturn, 1) := by decide +kernel
set_option maxRecDepth 20000 in
theorem ggX4_pick_X4_refuse : GoodIn wsX4_pick wsX4_refuse := goodIn_r _ [6, 7, 44, 45, 46, 47, 48, 49, 50, 51, 52, 53, 54, 55, 56, 57, 58, 59, 60, 61, 62, 63, 64, 65, 66, 67, 68, 69, 70, 71, 72, 73, 74, 75, 76, 77, 78, 79, 80, 81, 82, 83, 84, 85, 86] (by decide +kernel) (by decide +kernel)
set_option maxRecDepth 20000 in
theorem gX4_pick_X4_refuse : GoodIn wsX4_pick (wsV RX4 124 RX4 yX4_refuse wsX4_refuse) := goodIn_app (goodIn_of _ (by decide +kernel)) ggX4_pick_X4_refuse
set_option maxRecDepth 20000 in
theorem ggX4_pick_X4_mays : GoodIn wsX4_pick wsX4_mays := goodIn_r _ [11, 12, 13, 14, 15, 44, 45, 46, 47, 48, 49, 50, 51, 52, 53, 54, 55, 56, 57, 58, 59, 60, 61, 62, 63, 64, 65, 66, 67, 68, 69, 70, 71, 72, 73, 74, 75, 76, 77, 78, 79, 80, 81, 82, 83, 84, 85, 86] (by decide +kernel) (by decide +kernel)
set_option maxRecDepth 20000 in
theorem gX4_pick_X4_mays : GoodIn wsX4_pick (wsV RX4 167 RX4 yX4_mays wsX4_mays) := goodIn_app (goodIn_of _ (by decide +kernel)) ggX4_pick_X4_mays
set_option maxRecDepth 20000 in
theorem ggX4_pick_X4_picked : GoodIn wsX4_pick wsX4_picked := goodIn_r _ [19, 20, 21, 22, 23, 5, 24, 12, 25, 26, 27, 28, 29, 30, 13, 31, 32, 33, 34, 1, 35, 36, 37, 38, 39, 40, 41, 42, 43, 44, 45, 46, 47, 48, 49, 50, 51, 52, 53, 54, 55, 56, 57, 58, 59, 60, 61, 62, 63, 64, 65, 66, 67, 68, 69, 70, 71, 72, 73, 74, 75, 76, 77, 78, 79, 80, 81, 82, 83, 84, 85, 86] (by decide +kernel) (by decide +kernel)
set_option maxRecDepth 20000 in
theorem gX4_pick_X4_picked : GoodIn wsX4_pick (wsV RX4 170 RX4 yX4_picked wsX4_picked) := goodIn_app (goodIn_of _ (by decide +kernel)) ggX4_pick_X4_picked
theorem dX4_pick_0 : decode cX4_pick 0 = .ok (.iload_n 1, 1) := by decide +kernel
theorem dX4_pick_1 : decode cX4_pick 1 = .ok (.ifCond .ge 10, 3) := by decide +kernel
theorem dX4_pick_4 : decode cX4_pick 4 = .ok (.aload_n 0, 1) := by decide +kernel
theorem dX4_pick_5 : decode cX4_pick 5 = .ok (.bipush (-4), 2) := by decide +kernel
theorem dX4_pick_7 : decode cX4_pick 7 = .ok (.invokevirtual 124, 3) := by decide +kernel
theorem dX4_pick_10 : decode cX4_pick 10 = .ok (.ireturn, 1) := by decide +kernel
theorem dX4_pick_11 : decode cX4_pick 11 = .ok (.iload_n 1, 1) := by decide +kernel
theorem dX4_pick_12 : decode cX4_pick 12 = .ok (.ldc 143, 2) := by decide +kernel
theorem dX4_pick_14 : decode cX4_pick 14 = .ok (.if_icmp .lt 10, 3) := by decide +kernel
theorem dX4_pick_17 : decode cX4_pick 17 = .ok (.aload_n 0, 1) := by decide +kernel
theorem dX4_pick_18 : decode cX4_pick 18 = .ok (.bipush (-6), 2) := by decide +kernel
theorem dX4_pick_20 : decode cX4_pick 20 = .ok (.invokevirtual 124, 3) := by decide +kernel
theorem dX4_pick_23 : decode cX4_pick 23 = .ok (.ireturn, 1) := by decide +kernel
theorem dX4_pick_24 : decode cX4_pick 24 = .ok (.aload_n 0, 1) := by decide +kernel
theorem dX4_pick_25 : decode cX4_pick 25 = .ok (.iconst 0, 1) := by decide +kernel
theorem dX4_pick_26 : decode cX4_pick 26 = .ok (.invokevirtual 167, 3) := by decide +kernel
theorem dX4_pick_29 : decode cX4_pick 29 = .ok (.istore_n 2, 1) := by decide +kernel
theorem dX4_pick_30 : decode cX4_pick 30 = .ok (.iload_n 2, 1) := by decide +kernel
theorem dX4_pick_31 : decode cX4_pick 31 = .ok (.ifCond .ne 8, 3) := by decide +kernel
theorem dX4_pick_34 : decode cX4_pick 34 = .ok (.bipush (-9), 2) := by decide +kernel
theorem dX4_pick_36 : decode cX4_pick 36 = .ok (.goto 10, 3) := by decide +kernel
theorem dX4_pick_39 : decode cX4_pick 39 = .ok (.aload_n 0, 1) := by decide +kernel
theorem dX4_pick_40 : decode cX4_pick 40 = .ok (.iload_n 2, 1) := by decide +kernel
theorem dX4_pick_41 : decode cX4_pick 41 = .ok (.iload_n 1, 1) := by decide +kernel
theorem dX4_pick_42 : decode cX4_pick 42 = .ok (.iconst 0, 1) := by decide +kernel
theorem dX4_pick_43 : decode cX4_pick 43 = .ok (.invokevirtual 170, 3) := by decide +kernel
theorem dX4_pick_46 : decode cX4_pick 46 = .ok (.ireturn, 1) := by decide +kernel
set_option maxRecDepth 20000 in
theorem ggX4_callOf_X4_isCall : GoodIn wsX4_callOf wsX4_isCall := goodIn_r _ [16, 17, 18, 19, 15, 20, 26, 27, 28, 29, 30, 31, 32, 33, 34, 35, 36, 37, 38, 39, 40, 41, 42, 43, 44, 45, 46, 47, 48, 49, 50, 51, 52, 53, 54, 55, 56, 57, 58, 59, 60, 61, 62, 63, 64, 65, 66, 67, 68] (by decide +kernel) (by decide +kernel)
set_option maxRecDepth 20000 in
theorem gX4_callOf_X4_isCall : GoodIn wsX4_callOf (wsV RX4 193 RX4 yX4_isCall wsX4_isCall) := goodIn_app (goodIn_of _ (by decide +kernel)) ggX4_callOf_X4_isCall
set_option maxRecDepth 20000 in
theorem ggX4_callOf_X4_refuse : GoodIn wsX4_callOf wsX4_refuse := goodIn_r _ [24, 25, 26, 27, 28, 29, 30, 31, 32, 33, 34, 35, 36, 37, 38, 39, 40, 41, 42, 43, 44, 45, 46, 47, 48, 49, 50, 51, 52, 53, 54, 55, 56, 57, 58, 59, 60, 61, 62, 63, 64, 65, 66, 67, 68] (by decide +kernel) (by decide +kernel)
set_option maxRecDepth 20000 in
theorem gX4_callOf_X4_refuse : GoodIn wsX4_callOf (wsV RX4 124 RX4 yX4_refuse wsX4_refuse) := goodIn_app (goodIn_of _ (by decide +kernel)) ggX4_callOf_X4_refuse
theorem dX4_callOf_0 : decode cX4_callOf 0 = .ok (.aload_n 0, 1) := by decide +kernel
theorem dX4_callOf_1 : decode cX4_callOf 1 = .ok (.iload_n 1, 1) := by decide +kernel
theorem dX4_callOf_2 : decode cX4_callOf 2 = .ok (.invokevirtual 193, 3) := by decide +kernel
theorem dX4_callOf_5 : decode cX4_callOf 5 = .ok (.ifCond .ne 9, 3) := by decide +kernel
theorem dX4_callOf_8 : decode cX4_callOf 8 = .ok (.aload_n 0, 1) := by decide +kernel
theorem dX4_callOf_9 : decode cX4_callOf 9 = .ok (.iconst (-1), 1) := by decide +kernel
theorem dX4_callOf_10 : decode cX4_callOf 10 = .ok (.invokevirtual 124, 3) := by decide +kernel
theorem dX4_callOf_13 : decode cX4_callOf 13 = .ok (.ireturn, 1) := by decide +kernel
theorem dX4_callOf_14 : decode cX4_callOf 14 = .ok (.iload_n 2, 1) := by decide +kernel
theorem dX4_callOf_15 : decode cX4_callOf 15 = .ok (.tableswitch 196 0 10 #[57, 64, 71, 78, 85, 100, 107, 149, 175, 182, 189], 57) := by decide +kernel
theorem dX4_callOf_72 : decode cX4_callOf 72 = .ok (.aload_n 0, 1) := by decide +kernel
theorem dX4_callOf_73 : decode cX4_callOf 73 = .ok (.getfield 77, 3) := by decide +kernel
theorem dX4_callOf_76 : decode cX4_callOf 76 = .ok (.iload_n 1, 1) := by decide +kernel
theorem dX4_callOf_77 : decode cX4_callOf 77 = .ok (.iaload, 1) := by decide +kernel
theorem dX4_callOf_78 : decode cX4_callOf 78 = .ok (.ireturn, 1) := by decide +kernel
theorem dX4_callOf_79 : decode cX4_callOf 79 = .ok (.aload_n 0, 1) := by decide +kernel
theorem dX4_callOf_80 : decode cX4_callOf 80 = .ok (.getfield 68, 3) := by decide +kernel
theorem dX4_callOf_83 : decode cX4_callOf 83 = .ok (.iload_n 1, 1) := by decide +kernel
theorem dX4_callOf_84 : decode cX4_callOf 84 = .ok (.iaload, 1) := by decide +kernel
theorem dX4_callOf_85 : decode cX4_callOf 85 = .ok (.ireturn, 1) := by decide +kernel
theorem dX4_callOf_86 : decode cX4_callOf 86 = .ok (.aload_n 0, 1) := by decide +kernel
theorem dX4_callOf_87 : decode cX4_callOf 87 = .ok (.getfield 71, 3) := by decide +kernel
theorem dX4_callOf_90 : decode cX4_callOf 90 = .ok (.iload_n 1, 1) := by decide +kernel
theorem dX4_callOf_91 : decode cX4_callOf 91 = .ok (.iaload, 1) := by decide +kernel
theorem dX4_callOf_92 : decode cX4_callOf 92 = .ok (.ireturn, 1) := by decide +kernel
theorem dX4_callOf_93 : decode cX4_callOf 93 = .ok (.aload_n 0, 1) := by decide +kernel
theorem dX4_callOf_94 : decode cX4_callOf 94 = .ok (.getfield 74, 3) := by decide +kernel
theorem dX4_callOf_97 : decode cX4_callOf 97 = .ok (.iload_n 1, 1) := by decide +kernel
theorem dX4_callOf_98 : decode cX4_callOf 98 = .ok (.iaload, 1) := by decide +kernel
theorem dX4_callOf_99 : decode cX4_callOf 99 = .ok (.ireturn, 1) := by decide +kernel
theorem dX4_callOf_100 : decode cX4_callOf 100 = .ok (.aload_n 0, 1) := by decide +kernel
theorem dX4_callOf_101 : decode cX4_callOf 101 = .ok (.getfield 95, 3) := by decide +kernel
theorem dX4_callOf_104 : decode cX4_callOf 104 = .ok (.iload_n 1, 1) := by decide +kernel
theorem dX4_callOf_105 : decode cX4_callOf 105 = .ok (.baload, 1) := by decide +kernel
theorem dX4_callOf_106 : decode cX4_callOf 106 = .ok (.ifCond .eq 7, 3) := by decide +kernel
theorem dX4_callOf_109 : decode cX4_callOf 109 = .ok (.iconst 1, 1) := by decide +kernel
theorem dX4_callOf_110 : decode cX4_callOf 110 = .ok (.goto 4, 3) := by decide +kernel
theorem dX4_callOf_113 : decode cX4_callOf 113 = .ok (.iconst 0, 1) := by decide +kernel
theorem dX4_callOf_114 : decode cX4_callOf 114 = .ok (.ireturn, 1) := by decide +kernel
theorem dX4_callOf_115 : decode cX4_callOf 115 = .ok (.aload_n 0, 1) := by decide +kernel
theorem dX4_callOf_116 : decode cX4_callOf 116 = .ok (.getfield 80, 3) := by decide +kernel
theorem dX4_callOf_119 : decode cX4_callOf 119 = .ok (.iload_n 1, 1) := by decide +kernel
theorem dX4_callOf_120 : decode cX4_callOf 120 = .ok (.iaload, 1) := by decide +kernel
theorem dX4_callOf_121 : decode cX4_callOf 121 = .ok (.ireturn, 1) := by decide +kernel
theorem dX4_callOf_122 : decode cX4_callOf 122 = .ok (.aload_n 0, 1) := by decide +kernel
theorem dX4_callOf_123 : decode cX4_callOf 123 = .ok (.getfield 77, 3) := by decide +kernel
theorem dX4_callOf_126 : decode cX4_callOf 126 = .ok (.iload_n 1, 1) := by decide +kernel
theorem dX4_callOf_127 : decode cX4_callOf 127 = .ok (.iaload, 1) := by decide +kernel
theorem dX4_callOf_128 : decode cX4_callOf 128 = .ok (.iconst 2, 1) := by decide +kernel
theorem dX4_callOf_129 : decode cX4_callOf 129 = .ok (.if_icmp .ne 12, 3) := by decide +kernel
theorem dX4_callOf_132 : decode cX4_callOf 132 = .ok (.aload_n 0, 1) := by decide +kernel
theorem dX4_callOf_133 : decode cX4_callOf 133 = .ok (.getfield 92, 3) := by decide +kernel
theorem dX4_callOf_136 : decode cX4_callOf 136 = .ok (.iload_n 1, 1) := by decide +kernel
theorem dX4_callOf_137 : decode cX4_callOf 137 = .ok (.iaload, 1) := by decide +kernel
theorem dX4_callOf_138 : decode cX4_callOf 138 = .ok (.goto 25, 3) := by decide +kernel
theorem dX4_callOf_141 : decode cX4_callOf 141 = .ok (.aload_n 0, 1) := by decide +kernel
theorem dX4_callOf_142 : decode cX4_callOf 142 = .ok (.getfield 80, 3) := by decide +kernel
theorem dX4_callOf_145 : decode cX4_callOf 145 = .ok (.iload_n 1, 1) := by decide +kernel
theorem dX4_callOf_146 : decode cX4_callOf 146 = .ok (.iaload, 1) := by decide +kernel
theorem dX4_callOf_147 : decode cX4_callOf 147 = .ok (.ifCond .le 14, 3) := by decide +kernel
theorem dX4_callOf_150 : decode cX4_callOf 150 = .ok (.aload_n 0, 1) := by decide +kernel
theorem dX4_callOf_151 : decode cX4_callOf 151 = .ok (.getfield 99, 3) := by decide +kernel
theorem dX4_callOf_154 : decode cX4_callOf 154 = .ok (.iconst 2, 1) := by decide +kernel
theorem dX4_callOf_155 : decode cX4_callOf 155 = .ok (.iload_n 1, 1) := by decide +kernel
theorem dX4_callOf_156 : decode cX4_callOf 156 = .ok (.imul, 1) := by decide +kernel
theorem dX4_callOf_157 : decode cX4_callOf 157 = .ok (.iaload, 1) := by decide +kernel
theorem dX4_callOf_158 : decode cX4_callOf 158 = .ok (.goto 5, 3) := by decide +kernel
theorem dX4_callOf_161 : decode cX4_callOf 161 = .ok (.bipush (-9), 2) := by decide +kernel
theorem dX4_callOf_163 : decode cX4_callOf 163 = .ok (.ireturn, 1) := by decide +kernel
theorem dX4_callOf_164 : decode cX4_callOf 164 = .ok (.aload_n 0, 1) := by decide +kernel
theorem dX4_callOf_165 : decode cX4_callOf 165 = .ok (.getfield 80, 3) := by decide +kernel
theorem dX4_callOf_168 : decode cX4_callOf 168 = .ok (.iload_n 1, 1) := by decide +kernel
theorem dX4_callOf_169 : decode cX4_callOf 169 = .ok (.iaload, 1) := by decide +kernel
theorem dX4_callOf_170 : decode cX4_callOf 170 = .ok (.iconst 1, 1) := by decide +kernel
theorem dX4_callOf_171 : decode cX4_callOf 171 = .ok (.if_icmp .le 16, 3) := by decide +kernel
theorem dX4_callOf_174 : decode cX4_callOf 174 = .ok (.aload_n 0, 1) := by decide +kernel
theorem dX4_callOf_175 : decode cX4_callOf 175 = .ok (.getfield 99, 3) := by decide +kernel
theorem dX4_callOf_178 : decode cX4_callOf 178 = .ok (.iconst 2, 1) := by decide +kernel
theorem dX4_callOf_179 : decode cX4_callOf 179 = .ok (.iload_n 1, 1) := by decide +kernel
theorem dX4_callOf_180 : decode cX4_callOf 180 = .ok (.imul, 1) := by decide +kernel
theorem dX4_callOf_181 : decode cX4_callOf 181 = .ok (.iconst 1, 1) := by decide +kernel
theorem dX4_callOf_182 : decode cX4_callOf 182 = .ok (.iadd, 1) := by decide +kernel
theorem dX4_callOf_183 : decode cX4_callOf 183 = .ok (.iaload, 1) := by decide +kernel
theorem dX4_callOf_184 : decode cX4_callOf 184 = .ok (.goto 5, 3) := by decide +kernel
theorem dX4_callOf_187 : decode cX4_callOf 187 = .ok (.bipush (-9), 2) := by decide +kernel
theorem dX4_callOf_189 : decode cX4_callOf 189 = .ok (.ireturn, 1) := by decide +kernel
theorem dX4_callOf_190 : decode cX4_callOf 190 = .ok (.aload_n 0, 1) := by decide +kernel
theorem dX4_callOf_191 : decode cX4_callOf 191 = .ok (.getfield 83, 3) := by decide +kernel
theorem dX4_callOf_194 : decode cX4_callOf 194 = .ok (.iload_n 1, 1) := by decide +kernel
theorem dX4_callOf_195 : decode cX4_callOf 195 = .ok (.iaload, 1) := by decide +kernel
theorem dX4_callOf_196 : decode cX4_callOf 196 = .ok (.ireturn, 1) := by decide +kernel
theorem dX4_callOf_197 : decode cX4_callOf 197 = .ok (.aload_n 0, 1) := by decide +kernel
theorem dX4_callOf_198 : decode cX4_callOf 198 = .ok (.getfield 86, 3) := by decide +kernel
theorem dX4_callOf_201 : decode cX4_callOf 201 = .ok (.iload_n 1, 1) := by decide +kernel
theorem dX4_callOf_202 : decode cX4_callOf 202 = .ok (.iaload, 1) := by decide +kernel
theorem dX4_callOf_203 : decode cX4_callOf 203 = .ok (.ireturn, 1) := by decide +kernel
theorem dX4_callOf_204 : decode cX4_callOf 204 = .ok (.aload_n 0, 1) := by decide +kernel
theorem dX4_callOf_205 : decode cX4_callOf 205 = .ok (.getfield 89, 3) := by decide +kernel
theorem dX4_callOf_208 : decode cX4_callOf 208 = .ok (.iload_n 1, 1) := by decide +kernel
theorem dX4_callOf_209 : decode cX4_callOf 209 = .ok (.iaload, 1) := by decide +kernel
theorem dX4_callOf_210 : decode cX4_callOf 210 = .ok (.ireturn, 1) := by decide +kernel
theorem dX4_callOf_211 : decode cX4_callOf 211 = .ok (.aload_n 0, 1) := by decide +kernel
theorem dX4_callOf_212 : decode cX4_callOf 212 = .ok (.bipush (-2), 2) := by decide +kernel
theorem dX4_callOf_214 : decode cX4_callOf 214 = .ok (.invokevirtual 124, 3) := by decide +kernel
theorem dX4_callOf_217 : decode cX4_callOf 217 = .ok (.ireturn, 1) := by decide +kernel
set_option maxRecDepth 20000 in
theorem ggX4_serverOf_X4_isServer : GoodIn wsX4_serverOf wsX4_isServer := goodIn_r _ [22, 23, 24, 25, 21, 26, 32, 33, 34, 35, 36, 37, 38, 39, 40, 41, 42, 43, 44, 45, 46, 47, 48, 49, 50, 51, 52, 53, 54, 55, 56, 57, 58, 59, 60, 61, 62, 63, 64, 65, 66, 67, 68, 69, 70, 71, 72, 73, 74] (by decide +kernel) (by decide +kernel)
set_option maxRecDepth 20000 in
theorem gX4_serverOf_X4_isServer : GoodIn wsX4_serverOf (wsV RX4 128 RX4 yX4_isServer wsX4_isServer) := goodIn_app (goodIn_of _ (by decide +kernel)) ggX4_serverOf_X4_isServer
set_option maxRecDepth 20000 in
theorem ggX4_serverOf_X4_refuse : GoodIn wsX4_serverOf wsX4_refuse := goodIn_r _ [30, 31, 32, 33, 34, 35, 36, 37, 38, 39, 40, 41, 42, 43, 44, 45, 46, 47, 48, 49, 50, 51, 52, 53, 54, 55, 56, 57, 58, 59, 60, 61, 62, 63, 64, 65, 66, 67, 68, 69, 70, 71, 72, 73, 74] (by decide +kernel) (by decide +kernel)
set_option maxRecDepth 20000 in
theorem gX4_serverOf_X4_refuse : GoodIn wsX4_serverOf (wsV RX4 124 RX4 yX4_refuse wsX4_refuse) := goodIn_app (goodIn_of _ (by decide +kernel)) ggX4_serverOf_X4_refuse
theorem dX4_serverOf_0 : decode cX4_serverOf 0 = .ok (.aload_n 0, 1) := by decide +kernel
theorem dX4_serverOf_1 : decode cX4_serverOf 1 = .ok (.iload_n 1, 1) := by decide +kernel
theorem dX4_serverOf_2 : decode cX4_serverOf 2 = .ok (.invokevirtual 128, 3) := by decide +kernel
theorem dX4_serverOf_5 : decode cX4_serverOf 5 = .ok (.ifCond .ne 9, 3) := by decide +kernel
theorem dX4_serverOf_8 : decode cX4_serverOf 8 = .ok (.aload_n 0, 1) := by decide +kernel
theorem dX4_serverOf_9 : decode cX4_serverOf 9 = .ok (.iconst (-1), 1) := by decide +kernel
theorem dX4_serverOf_10 : decode cX4_serverOf 10 = .ok (.invokevirtual 124, 3) := by decide +kernel
theorem dX4_serverOf_13 : decode cX4_serverOf 13 = .ok (.ireturn, 1) := by decide +kernel
theorem dX4_serverOf_14 : decode cX4_serverOf 14 = .ok (.iload_n 2, 1) := by decide +kernel
theorem dX4_serverOf_15 : decode cX4_serverOf 15 = .ok (.tableswitch 207 0 15 #[77, 84, 91, 98, 105, 112, 119, 141, 148, 155, 165, 172, 179, 186, 193, 200], 77) := by decide +kernel
theorem dX4_serverOf_92 : decode cX4_serverOf 92 = .ok (.aload_n 0, 1) := by decide +kernel
theorem dX4_serverOf_93 : decode cX4_serverOf 93 = .ok (.getfield 38, 3) := by decide +kernel
theorem dX4_serverOf_96 : decode cX4_serverOf 96 = .ok (.iload_n 1, 1) := by decide +kernel
theorem dX4_serverOf_97 : decode cX4_serverOf 97 = .ok (.iaload, 1) := by decide +kernel
theorem dX4_serverOf_98 : decode cX4_serverOf 98 = .ok (.ireturn, 1) := by decide +kernel
theorem dX4_serverOf_99 : decode cX4_serverOf 99 = .ok (.aload_n 0, 1) := by decide +kernel
theorem dX4_serverOf_100 : decode cX4_serverOf 100 = .ok (.getfield 41, 3) := by decide +kernel
theorem dX4_serverOf_103 : decode cX4_serverOf 103 = .ok (.iload_n 1, 1) := by decide +kernel
theorem dX4_serverOf_104 : decode cX4_serverOf 104 = .ok (.iaload, 1) := by decide +kernel
theorem dX4_serverOf_105 : decode cX4_serverOf 105 = .ok (.ireturn, 1) := by decide +kernel
theorem dX4_serverOf_106 : decode cX4_serverOf 106 = .ok (.aload_n 0, 1) := by decide +kernel
theorem dX4_serverOf_107 : decode cX4_serverOf 107 = .ok (.getfield 44, 3) := by decide +kernel
theorem dX4_serverOf_110 : decode cX4_serverOf 110 = .ok (.iload_n 1, 1) := by decide +kernel
theorem dX4_serverOf_111 : decode cX4_serverOf 111 = .ok (.iaload, 1) := by decide +kernel
theorem dX4_serverOf_112 : decode cX4_serverOf 112 = .ok (.ireturn, 1) := by decide +kernel
theorem dX4_serverOf_113 : decode cX4_serverOf 113 = .ok (.aload_n 0, 1) := by decide +kernel
theorem dX4_serverOf_114 : decode cX4_serverOf 114 = .ok (.getfield 47, 3) := by decide +kernel
theorem dX4_serverOf_117 : decode cX4_serverOf 117 = .ok (.iload_n 1, 1) := by decide +kernel
theorem dX4_serverOf_118 : decode cX4_serverOf 118 = .ok (.iaload, 1) := by decide +kernel
theorem dX4_serverOf_119 : decode cX4_serverOf 119 = .ok (.ireturn, 1) := by decide +kernel
theorem dX4_serverOf_120 : decode cX4_serverOf 120 = .ok (.aload_n 0, 1) := by decide +kernel
theorem dX4_serverOf_121 : decode cX4_serverOf 121 = .ok (.getfield 50, 3) := by decide +kernel
theorem dX4_serverOf_124 : decode cX4_serverOf 124 = .ok (.iload_n 1, 1) := by decide +kernel
theorem dX4_serverOf_125 : decode cX4_serverOf 125 = .ok (.iaload, 1) := by decide +kernel
theorem dX4_serverOf_126 : decode cX4_serverOf 126 = .ok (.ireturn, 1) := by decide +kernel
theorem dX4_serverOf_127 : decode cX4_serverOf 127 = .ok (.aload_n 0, 1) := by decide +kernel
theorem dX4_serverOf_128 : decode cX4_serverOf 128 = .ok (.getfield 53, 3) := by decide +kernel
theorem dX4_serverOf_131 : decode cX4_serverOf 131 = .ok (.iload_n 1, 1) := by decide +kernel
theorem dX4_serverOf_132 : decode cX4_serverOf 132 = .ok (.iaload, 1) := by decide +kernel
theorem dX4_serverOf_133 : decode cX4_serverOf 133 = .ok (.ireturn, 1) := by decide +kernel
theorem dX4_serverOf_134 : decode cX4_serverOf 134 = .ok (.aload_n 0, 1) := by decide +kernel
theorem dX4_serverOf_135 : decode cX4_serverOf 135 = .ok (.getfield 38, 3) := by decide +kernel
theorem dX4_serverOf_138 : decode cX4_serverOf 138 = .ok (.iload_n 1, 1) := by decide +kernel
theorem dX4_serverOf_139 : decode cX4_serverOf 139 = .ok (.iaload, 1) := by decide +kernel
theorem dX4_serverOf_140 : decode cX4_serverOf 140 = .ok (.iconst 1, 1) := by decide +kernel
theorem dX4_serverOf_141 : decode cX4_serverOf 141 = .ok (.if_icmp .ne 12, 3) := by decide +kernel
theorem dX4_serverOf_144 : decode cX4_serverOf 144 = .ok (.aload_n 0, 1) := by decide +kernel
theorem dX4_serverOf_145 : decode cX4_serverOf 145 = .ok (.getfield 56, 3) := by decide +kernel
theorem dX4_serverOf_148 : decode cX4_serverOf 148 = .ok (.iload_n 1, 1) := by decide +kernel
theorem dX4_serverOf_149 : decode cX4_serverOf 149 = .ok (.iaload, 1) := by decide +kernel
theorem dX4_serverOf_150 : decode cX4_serverOf 150 = .ok (.goto 5, 3) := by decide +kernel
theorem dX4_serverOf_153 : decode cX4_serverOf 153 = .ok (.bipush (-9), 2) := by decide +kernel
theorem dX4_serverOf_155 : decode cX4_serverOf 155 = .ok (.ireturn, 1) := by decide +kernel
theorem dX4_serverOf_156 : decode cX4_serverOf 156 = .ok (.aload_n 0, 1) := by decide +kernel
theorem dX4_serverOf_157 : decode cX4_serverOf 157 = .ok (.getfield 59, 3) := by decide +kernel
theorem dX4_serverOf_160 : decode cX4_serverOf 160 = .ok (.iload_n 1, 1) := by decide +kernel
theorem dX4_serverOf_161 : decode cX4_serverOf 161 = .ok (.iaload, 1) := by decide +kernel
theorem dX4_serverOf_162 : decode cX4_serverOf 162 = .ok (.ireturn, 1) := by decide +kernel
theorem dX4_serverOf_163 : decode cX4_serverOf 163 = .ok (.aload_n 0, 1) := by decide +kernel
theorem dX4_serverOf_164 : decode cX4_serverOf 164 = .ok (.getfield 62, 3) := by decide +kernel
theorem dX4_serverOf_167 : decode cX4_serverOf 167 = .ok (.iload_n 1, 1) := by decide +kernel
theorem dX4_serverOf_168 : decode cX4_serverOf 168 = .ok (.iaload, 1) := by decide +kernel
theorem dX4_serverOf_169 : decode cX4_serverOf 169 = .ok (.ireturn, 1) := by decide +kernel
theorem dX4_serverOf_170 : decode cX4_serverOf 170 = .ok (.aload_n 0, 1) := by decide +kernel
theorem dX4_serverOf_171 : decode cX4_serverOf 171 = .ok (.getfield 65, 3) := by decide +kernel
theorem dX4_serverOf_174 : decode cX4_serverOf 174 = .ok (.iload_n 1, 1) := by decide +kernel
theorem dX4_serverOf_175 : decode cX4_serverOf 175 = .ok (.iaload, 1) := by decide +kernel
theorem dX4_serverOf_176 : decode cX4_serverOf 176 = .ok (.ldc 234, 2) := by decide +kernel
theorem dX4_serverOf_178 : decode cX4_serverOf 178 = .ok (.iadd, 1) := by decide +kernel
theorem dX4_serverOf_179 : decode cX4_serverOf 179 = .ok (.ireturn, 1) := by decide +kernel
theorem dX4_serverOf_180 : decode cX4_serverOf 180 = .ok (.aload_n 0, 1) := by decide +kernel
theorem dX4_serverOf_181 : decode cX4_serverOf 181 = .ok (.getfield 20, 3) := by decide +kernel
theorem dX4_serverOf_184 : decode cX4_serverOf 184 = .ok (.iload_n 1, 1) := by decide +kernel
theorem dX4_serverOf_185 : decode cX4_serverOf 185 = .ok (.iaload, 1) := by decide +kernel
theorem dX4_serverOf_186 : decode cX4_serverOf 186 = .ok (.ireturn, 1) := by decide +kernel
theorem dX4_serverOf_187 : decode cX4_serverOf 187 = .ok (.aload_n 0, 1) := by decide +kernel
theorem dX4_serverOf_188 : decode cX4_serverOf 188 = .ok (.getfield 23, 3) := by decide +kernel
theorem dX4_serverOf_191 : decode cX4_serverOf 191 = .ok (.iload_n 1, 1) := by decide +kernel
theorem dX4_serverOf_192 : decode cX4_serverOf 192 = .ok (.iaload, 1) := by decide +kernel
theorem dX4_serverOf_193 : decode cX4_serverOf 193 = .ok (.ireturn, 1) := by decide +kernel
theorem dX4_serverOf_194 : decode cX4_serverOf 194 = .ok (.aload_n 0, 1) := by decide +kernel
theorem dX4_serverOf_195 : decode cX4_serverOf 195 = .ok (.getfield 26, 3) := by decide +kernel
theorem dX4_serverOf_198 : decode cX4_serverOf 198 = .ok (.iload_n 1, 1) := by decide +kernel
theorem dX4_serverOf_199 : decode cX4_serverOf 199 = .ok (.iaload, 1) := by decide +kernel
theorem dX4_serverOf_200 : decode cX4_serverOf 200 = .ok (.ireturn, 1) := by decide +kernel
theorem dX4_serverOf_201 : decode cX4_serverOf 201 = .ok (.aload_n 0, 1) := by decide +kernel
theorem dX4_serverOf_202 : decode cX4_serverOf 202 = .ok (.getfield 29, 3) := by decide +kernel
theorem dX4_serverOf_205 : decode cX4_serverOf 205 = .ok (.iload_n 1, 1) := by decide +kernel
theorem dX4_serverOf_206 : decode cX4_serverOf 206 = .ok (.iaload, 1) := by decide +kernel
theorem dX4_serverOf_207 : decode cX4_serverOf 207 = .ok (.ireturn, 1) := by decide +kernel
theorem dX4_serverOf_208 : decode cX4_serverOf 208 = .ok (.aload_n 0, 1) := by decide +kernel
theorem dX4_serverOf_209 : decode cX4_serverOf 209 = .ok (.getfield 32, 3) := by decide +kernel
theorem dX4_serverOf_212 : decode cX4_serverOf 212 = .ok (.iload_n 1, 1) := by decide +kernel
theorem dX4_serverOf_213 : decode cX4_serverOf 213 = .ok (.iaload, 1) := by decide +kernel
theorem dX4_serverOf_214 : decode cX4_serverOf 214 = .ok (.ireturn, 1) := by decide +kernel
theorem dX4_serverOf_215 : decode cX4_serverOf 215 = .ok (.aload_n 0, 1) := by decide +kernel
theorem dX4_serverOf_216 : decode cX4_serverOf 216 = .ok (.getfield 35, 3) := by decide +kernel
theorem dX4_serverOf_219 : decode cX4_serverOf 219 = .ok (.iload_n 1, 1) := by decide +kernel
theorem dX4_serverOf_220 : decode cX4_serverOf 220 = .ok (.iaload, 1) := by decide +kernel
theorem dX4_serverOf_221 : decode cX4_serverOf 221 = .ok (.ireturn, 1) := by decide +kernel
theorem dX4_serverOf_222 : decode cX4_serverOf 222 = .ok (.aload_n 0, 1) := by decide +kernel
theorem dX4_serverOf_223 : decode cX4_serverOf 223 = .ok (.bipush (-2), 2) := by decide +kernel
theorem dX4_serverOf_225 : decode cX4_serverOf 225 = .ok (.invokevirtual 124, 3) := by decide +kernel
theorem dX4_serverOf_228 : decode cX4_serverOf 228 = .ok (.ireturn, 1) := by decide +kernel
set_option maxRecDepth 20000 in
theorem ggX4_mark_X4_isServer : GoodIn wsX4_mark wsX4_isServer := goodIn_r _ [5, 6, 7, 8, 4, 9, 20, 21, 22, 23, 24, 25, 26, 27, 28, 29, 30, 31, 32, 33, 34, 35, 36, 37, 38, 39, 40, 41, 42, 43, 44, 45, 46, 47, 48, 49, 50, 51, 52, 53, 54, 55, 56, 57, 58, 59, 60, 61, 62] (by decide +kernel) (by decide +kernel)
set_option maxRecDepth 20000 in
theorem gX4_mark_X4_isServer : GoodIn wsX4_mark (wsV RX4 128 RX4 yX4_isServer wsX4_isServer) := goodIn_app (goodIn_of _ (by decide +kernel)) ggX4_mark_X4_isServer
set_option maxRecDepth 20000 in
theorem ggX4_mark_X4_refuse : GoodIn wsX4_mark wsX4_refuse := goodIn_r _ [13, 14, 20, 21, 22, 23, 24, 25, 26, 27, 28, 29, 30, 31, 32, 33, 34, 35, 36, 37, 38, 39, 40, 41, 42, 43, 44, 45, 46, 47, 48, 49, 50, 51, 52, 53, 54, 55, 56, 57, 58, 59, 60, 61, 62] (by decide +kernel) (by decide +kernel)
set_option maxRecDepth 20000 in
theorem gX4_mark_X4_refuse : GoodIn wsX4_mark (wsV RX4 124 RX4 yX4_refuse wsX4_refuse) := goodIn_app (goodIn_of _ (by decide +kernel)) ggX4_mark_X4_refuse
set_option maxRecDepth 20000 in
theorem ggX4_mark_X4_isIn : GoodIn wsX4_mark wsX4_isIn := goodIn_r _ [9] (by decide +kernel) (by decide +kernel)
set_option maxRecDepth 20000 in
theorem gX4_mark_X4_isIn : GoodIn wsX4_mark (va_wsS RX4 117 yX4_isIn wsX4_isIn) := goodIn_app (goodIn_of _ (by decide +kernel)) ggX4_mark_X4_isIn
set_option maxRecDepth 20000 in
theorem ggX4_mark_X4_markOf : GoodIn wsX4_mark wsX4_markOf := goodIn_r _ [17, 18, 19] (by decide +kernel) (by decide +kernel)
set_option maxRecDepth 20000 in
theorem gX4_mark_X4_markOf : GoodIn wsX4_mark (va_wsS RX4 144 yX4_markOf wsX4_markOf) := goodIn_app (goodIn_of _ (by decide +kernel)) ggX4_mark_X4_markOf
theorem dX4_mark_0 : decode cX4_mark 0 = .ok (.aload_n 0, 1) := by decide +kernel
theorem dX4_mark_1 : decode cX4_mark 1 = .ok (.iload_n 1, 1) := by decide +kernel
theorem dX4_mark_2 : decode cX4_mark 2 = .ok (.invokevirtual 128, 3) := by decide +kernel
theorem dX4_mark_5 : decode cX4_mark 5 = .ok (.ifCond .ne 9, 3) := by decide +kernel
theorem dX4_mark_8 : decode cX4_mark 8 = .ok (.aload_n 0, 1) := by decide +kernel
theorem dX4_mark_9 : decode cX4_mark 9 = .ok (.iconst (-1), 1) := by decide +kernel
theorem dX4_mark_10 : decode cX4_mark 10 = .ok (.invokevirtual 124, 3) := by decide +kernel
theorem dX4_mark_13 : decode cX4_mark 13 = .ok (.ireturn, 1) := by decide +kernel
theorem dX4_mark_14 : decode cX4_mark 14 = .ok (.iload_n 2, 1) := by decide +kernel
theorem dX4_mark_15 : decode cX4_mark 15 = .ok (.iconst 4, 1) := by decide +kernel
theorem dX4_mark_16 : decode cX4_mark 16 = .ok (.invokestatic 117, 3) := by decide +kernel
theorem dX4_mark_19 : decode cX4_mark 19 = .ok (.ifCond .eq 11, 3) := by decide +kernel
theorem dX4_mark_22 : decode cX4_mark 22 = .ok (.iload_n 1, 1) := by decide +kernel
theorem dX4_mark_23 : decode cX4_mark 23 = .ok (.iload_n 2, 1) := by decide +kernel
theorem dX4_mark_24 : decode cX4_mark 24 = .ok (.invokestatic 144, 3) := by decide +kernel
theorem dX4_mark_27 : decode cX4_mark 27 = .ok (.goto 9, 3) := by decide +kernel
theorem dX4_mark_30 : decode cX4_mark 30 = .ok (.aload_n 0, 1) := by decide +kernel
theorem dX4_mark_31 : decode cX4_mark 31 = .ok (.bipush (-2), 2) := by decide +kernel
theorem dX4_mark_33 : decode cX4_mark 33 = .ok (.invokevirtual 124, 3) := by decide +kernel
theorem dX4_mark_36 : decode cX4_mark 36 = .ok (.ireturn, 1) := by decide +kernel
set_option maxRecDepth 20000 in
theorem ggX4_queue_X4_line : GoodIn wsX4_queue wsX4_line := goodIn_r _ [7, 1, 8, 9, 2, 10, 11, 12, 6, 13, 14, 15, 19, 20, 21, 22, 23, 24, 25, 26, 27, 28, 29, 30, 31, 32, 33, 34, 35, 36, 37, 38, 39, 40, 41, 42, 43, 44, 45, 46, 47, 48, 49, 50, 51, 52, 53, 54, 55, 56, 57, 58, 59, 60, 61] (by decide +kernel) (by decide +kernel)
set_option maxRecDepth 20000 in
theorem gX4_queue_X4_line : GoodIn wsX4_queue (wsV RX4 227 RX4 yX4_line wsX4_line) := goodIn_app (goodIn_of _ (by decide +kernel)) ggX4_queue_X4_line
set_option maxRecDepth 20000 in
theorem ggX4_queue_X4_isIn : GoodIn wsX4_queue wsX4_isIn := goodIn_r _ [18] (by decide +kernel) (by decide +kernel)
set_option maxRecDepth 20000 in
theorem gX4_queue_X4_isIn : GoodIn wsX4_queue (va_wsS RX4 117 yX4_isIn wsX4_isIn) := goodIn_app (goodIn_of _ (by decide +kernel)) ggX4_queue_X4_isIn
theorem dX4_queue_0 : decode cX4_queue 0 = .ok (.aload_n 0, 1) := by decide +kernel
theorem dX4_queue_1 : decode cX4_queue 1 = .ok (.invokevirtual 227, 3) := by decide +kernel
theorem dX4_queue_4 : decode cX4_queue 4 = .ok (.iload_n 1, 1) := by decide +kernel
theorem dX4_queue_5 : decode cX4_queue 5 = .ok (.aload_n 0, 1) := by decide +kernel
theorem dX4_queue_6 : decode cX4_queue 6 = .ok (.getfield 212, 3) := by decide +kernel
theorem dX4_queue_9 : decode cX4_queue 9 = .ok (.invokestatic 117, 3) := by decide +kernel
theorem dX4_queue_12 : decode cX4_queue 12 = .ok (.ifCond .eq 12, 3) := by decide +kernel
theorem dX4_queue_15 : decode cX4_queue 15 = .ok (.aload_n 0, 1) := by decide +kernel
theorem dX4_queue_16 : decode cX4_queue 16 = .ok (.getfield 111, 3) := by decide +kernel
theorem dX4_queue_19 : decode cX4_queue 19 = .ok (.iload_n 1, 1) := by decide +kernel
theorem dX4_queue_20 : decode cX4_queue 20 = .ok (.iaload, 1) := by decide +kernel
theorem dX4_queue_21 : decode cX4_queue 21 = .ok (.goto 5, 3) := by decide +kernel
theorem dX4_queue_24 : decode cX4_queue 24 = .ok (.bipush (-9), 2) := by decide +kernel
theorem dX4_queue_26 : decode cX4_queue 26 = .ok (.ireturn, 1) := by decide +kernel
set_option maxRecDepth 20000 in
theorem ggX4_share_X4_isServer : GoodIn wsX4_share wsX4_isServer := goodIn_r _ [7, 8, 9, 10, 6, 11, 17, 18, 19, 20, 21, 22, 23, 24, 25, 26, 27, 28, 29, 30, 31, 32, 33, 34, 35, 36, 37, 38, 39, 40, 41, 42, 43, 44, 45, 46, 47, 48, 49, 50, 51, 52, 53, 54, 55, 56, 57, 58, 59] (by decide +kernel) (by decide +kernel)
set_option maxRecDepth 20000 in
theorem gX4_share_X4_isServer : GoodIn wsX4_share (wsV RX4 128 RX4 yX4_isServer wsX4_isServer) := goodIn_app (goodIn_of _ (by decide +kernel)) ggX4_share_X4_isServer
set_option maxRecDepth 20000 in
theorem ggX4_share_X4_refuse : GoodIn wsX4_share wsX4_refuse := goodIn_r _ [15, 16, 17, 18, 19, 20, 21, 22, 23, 24, 25, 26, 27, 28, 29, 30, 31, 32, 33, 34, 35, 36, 37, 38, 39, 40, 41, 42, 43, 44, 45, 46, 47, 48, 49, 50, 51, 52, 53, 54, 55, 56, 57, 58, 59] (by decide +kernel) (by decide +kernel)
set_option maxRecDepth 20000 in
theorem gX4_share_X4_refuse : GoodIn wsX4_share (wsV RX4 124 RX4 yX4_refuse wsX4_refuse) := goodIn_app (goodIn_of _ (by decide +kernel)) ggX4_share_X4_refuse
theorem dX4_share_0 : decode cX4_share 0 = .ok (.aload_n 0, 1) := by decide +kernel
theorem dX4_share_1 : decode cX4_share 1 = .ok (.iload_n 1, 1) := by decide +kernel
theorem dX4_share_2 : decode cX4_share 2 = .ok (.invokevirtual 128, 3) := by decide +kernel
theorem dX4_share_5 : decode cX4_share 5 = .ok (.ifCond .ne 9, 3) := by decide +kernel
theorem dX4_share_8 : decode cX4_share 8 = .ok (.aload_n 0, 1) := by decide +kernel
theorem dX4_share_9 : decode cX4_share 9 = .ok (.iconst (-1), 1) := by decide +kernel
theorem dX4_share_10 : decode cX4_share 10 = .ok (.invokevirtual 124, 3) := by decide +kernel
theorem dX4_share_13 : decode cX4_share 13 = .ok (.ireturn, 1) := by decide +kernel
theorem dX4_share_14 : decode cX4_share 14 = .ok (.aload_n 0, 1) := by decide +kernel
theorem dX4_share_15 : decode cX4_share 15 = .ok (.getfield 160, 3) := by decide +kernel
theorem dX4_share_18 : decode cX4_share 18 = .ok (.ifCond .ne 7, 3) := by decide +kernel
theorem dX4_share_21 : decode cX4_share 21 = .ok (.iconst 0, 1) := by decide +kernel
theorem dX4_share_22 : decode cX4_share 22 = .ok (.goto 18, 3) := by decide +kernel
theorem dX4_share_25 : decode cX4_share 25 = .ok (.sipush 1000, 3) := by decide +kernel
theorem dX4_share_28 : decode cX4_share 28 = .ok (.aload_n 0, 1) := by decide +kernel
theorem dX4_share_29 : decode cX4_share 29 = .ok (.getfield 44, 3) := by decide +kernel
theorem dX4_share_32 : decode cX4_share 32 = .ok (.iload_n 1, 1) := by decide +kernel
theorem dX4_share_33 : decode cX4_share 33 = .ok (.iaload, 1) := by decide +kernel
theorem dX4_share_34 : decode cX4_share 34 = .ok (.imul, 1) := by decide +kernel
theorem dX4_share_35 : decode cX4_share 35 = .ok (.aload_n 0, 1) := by decide +kernel
theorem dX4_share_36 : decode cX4_share 36 = .ok (.getfield 160, 3) := by decide +kernel
theorem dX4_share_39 : decode cX4_share 39 = .ok (.idiv, 1) := by decide +kernel
theorem dX4_share_40 : decode cX4_share 40 = .ok (.ireturn, 1) := by decide +kernel
theorem dX4_inState_0 : decode cX4_inState 0 = .ok (.iconst 0, 1) := by decide +kernel
theorem dX4_inState_1 : decode cX4_inState 1 = .ok (.istore_n 2, 1) := by decide +kernel
theorem dX4_inState_2 : decode cX4_inState 2 = .ok (.iconst 0, 1) := by decide +kernel
theorem dX4_inState_3 : decode cX4_inState 3 = .ok (.istore_n 3, 1) := by decide +kernel
theorem dX4_inState_4 : decode cX4_inState 4 = .ok (.iload_n 3, 1) := by decide +kernel
theorem dX4_inState_5 : decode cX4_inState 5 = .ok (.aload_n 0, 1) := by decide +kernel
theorem dX4_inState_6 : decode cX4_inState 6 = .ok (.getfield 121, 3) := by decide +kernel
theorem dX4_inState_9 : decode cX4_inState 9 = .ok (.if_icmp .ge 27, 3) := by decide +kernel
theorem dX4_inState_12 : decode cX4_inState 12 = .ok (.iload_n 2, 1) := by decide +kernel
theorem dX4_inState_13 : decode cX4_inState 13 = .ok (.aload_n 0, 1) := by decide +kernel
theorem dX4_inState_14 : decode cX4_inState 14 = .ok (.getfield 77, 3) := by decide +kernel
theorem dX4_inState_17 : decode cX4_inState 17 = .ok (.iload_n 3, 1) := by decide +kernel
theorem dX4_inState_18 : decode cX4_inState 18 = .ok (.iaload, 1) := by decide +kernel
theorem dX4_inState_19 : decode cX4_inState 19 = .ok (.iload_n 1, 1) := by decide +kernel
theorem dX4_inState_20 : decode cX4_inState 20 = .ok (.if_icmp .ne 7, 3) := by decide +kernel
theorem dX4_inState_23 : decode cX4_inState 23 = .ok (.iconst 1, 1) := by decide +kernel
theorem dX4_inState_24 : decode cX4_inState 24 = .ok (.goto 4, 3) := by decide +kernel
theorem dX4_inState_27 : decode cX4_inState 27 = .ok (.iconst 0, 1) := by decide +kernel
theorem dX4_inState_28 : decode cX4_inState 28 = .ok (.iadd, 1) := by decide +kernel
theorem dX4_inState_29 : decode cX4_inState 29 = .ok (.istore_n 2, 1) := by decide +kernel
theorem dX4_inState_30 : decode cX4_inState 30 = .ok (.iinc 3 1, 3) := by decide +kernel
theorem dX4_inState_33 : decode cX4_inState 33 = .ok (.goto (-29), 3) := by decide +kernel
theorem dX4_inState_36 : decode cX4_inState 36 = .ok (.iload_n 2, 1) := by decide +kernel
theorem dX4_inState_37 : decode cX4_inState 37 = .ok (.ireturn, 1) := by decide +kernel
set_option maxRecDepth 20000 in
theorem ggX4_count_X4_inState : GoodIn wsX4_count wsX4_inState := goodIn_r _ [13, 4, 14, 15, 16, 17, 18, 19, 20, 21, 22, 23, 24, 25, 26, 27, 28, 29, 30, 31, 32, 33, 34, 35, 36, 37, 38, 39, 40, 41, 42, 43, 44, 45, 46, 47, 48, 49, 50, 51, 52, 53, 54, 55, 56, 57] (by decide +kernel) (by decide +kernel)
set_option maxRecDepth 20000 in
theorem gX4_count_X4_inState : GoodIn wsX4_count (wsV RX4 235 RX4 yX4_inState wsX4_inState) := goodIn_app (goodIn_of _ (by decide +kernel)) ggX4_count_X4_inState
theorem dX4_count_0 : decode cX4_count 0 = .ok (.iload_n 1, 1) := by decide +kernel
theorem dX4_count_1 : decode cX4_count 1 = .ok (.bipush 10, 2) := by decide +kernel
theorem dX4_count_3 : decode cX4_count 3 = .ok (.if_icmp .le 19, 3) := by decide +kernel
theorem dX4_count_6 : decode cX4_count 6 = .ok (.iload_n 1, 1) := by decide +kernel
theorem dX4_count_7 : decode cX4_count 7 = .ok (.bipush 17, 2) := by decide +kernel
theorem dX4_count_9 : decode cX4_count 9 = .ok (.if_icmp .ge 13, 3) := by decide +kernel
theorem dX4_count_12 : decode cX4_count 12 = .ok (.aload_n 0, 1) := by decide +kernel
theorem dX4_count_13 : decode cX4_count 13 = .ok (.getfield 7, 3) := by decide +kernel
theorem dX4_count_16 : decode cX4_count 16 = .ok (.iload_n 1, 1) := by decide +kernel
theorem dX4_count_17 : decode cX4_count 17 = .ok (.bipush 10, 2) := by decide +kernel
theorem dX4_count_19 : decode cX4_count 19 = .ok (.isub, 1) := by decide +kernel
theorem dX4_count_20 : decode cX4_count 20 = .ok (.iaload, 1) := by decide +kernel
theorem dX4_count_21 : decode cX4_count 21 = .ok (.ireturn, 1) := by decide +kernel
theorem dX4_count_22 : decode cX4_count 22 = .ok (.iconst 0, 1) := by decide +kernel
theorem dX4_count_23 : decode cX4_count 23 = .ok (.istore_n 2, 1) := by decide +kernel
theorem dX4_count_24 : decode cX4_count 24 = .ok (.iload_n 1, 1) := by decide +kernel
theorem dX4_count_25 : decode cX4_count 25 = .ok (.tableswitch 152 0 17 #[87, 92, 97, 102, 102, 102, 102, 102, 110, 115, 120, 152, 152, 152, 152, 152, 152, 125], 87) := by decide +kernel
theorem dX4_count_112 : decode cX4_count 112 = .ok (.aload_n 0, 1) := by decide +kernel
theorem dX4_count_113 : decode cX4_count 113 = .ok (.getfield 163, 3) := by decide +kernel
theorem dX4_count_116 : decode cX4_count 116 = .ok (.ireturn, 1) := by decide +kernel
theorem dX4_count_117 : decode cX4_count 117 = .ok (.aload_n 0, 1) := by decide +kernel
theorem dX4_count_118 : decode cX4_count 118 = .ok (.getfield 114, 3) := by decide +kernel
theorem dX4_count_121 : decode cX4_count 121 = .ok (.ireturn, 1) := by decide +kernel
theorem dX4_count_122 : decode cX4_count 122 = .ok (.aload_n 0, 1) := by decide +kernel
theorem dX4_count_123 : decode cX4_count 123 = .ok (.getfield 121, 3) := by decide +kernel
theorem dX4_count_126 : decode cX4_count 126 = .ok (.ireturn, 1) := by decide +kernel
theorem dX4_count_127 : decode cX4_count 127 = .ok (.aload_n 0, 1) := by decide +kernel
theorem dX4_count_128 : decode cX4_count 128 = .ok (.iload_n 1, 1) := by decide +kernel
theorem dX4_count_129 : decode cX4_count 129 = .ok (.iconst 3, 1) := by decide +kernel
theorem dX4_count_130 : decode cX4_count 130 = .ok (.isub, 1) := by decide +kernel
theorem dX4_count_131 : decode cX4_count 131 = .ok (.invokevirtual 235, 3) := by decide +kernel
theorem dX4_count_134 : decode cX4_count 134 = .ok (.ireturn, 1) := by decide +kernel
theorem dX4_count_135 : decode cX4_count 135 = .ok (.aload_n 0, 1) := by decide +kernel
theorem dX4_count_136 : decode cX4_count 136 = .ok (.getfield 160, 3) := by decide +kernel
theorem dX4_count_139 : decode cX4_count 139 = .ok (.ireturn, 1) := by decide +kernel
theorem dX4_count_140 : decode cX4_count 140 = .ok (.aload_n 0, 1) := by decide +kernel
theorem dX4_count_141 : decode cX4_count 141 = .ok (.getfield 206, 3) := by decide +kernel
theorem dX4_count_144 : decode cX4_count 144 = .ok (.ireturn, 1) := by decide +kernel
theorem dX4_count_145 : decode cX4_count 145 = .ok (.aload_n 0, 1) := by decide +kernel
theorem dX4_count_146 : decode cX4_count 146 = .ok (.getfield 209, 3) := by decide +kernel
theorem dX4_count_149 : decode cX4_count 149 = .ok (.ireturn, 1) := by decide +kernel
theorem dX4_count_150 : decode cX4_count 150 = .ok (.iconst 0, 1) := by decide +kernel
theorem dX4_count_151 : decode cX4_count 151 = .ok (.istore_n 3, 1) := by decide +kernel
theorem dX4_count_152 : decode cX4_count 152 = .ok (.iload_n 3, 1) := by decide +kernel
theorem dX4_count_153 : decode cX4_count 153 = .ok (.aload_n 0, 1) := by decide +kernel
theorem dX4_count_154 : decode cX4_count 154 = .ok (.getfield 114, 3) := by decide +kernel
theorem dX4_count_157 : decode cX4_count 157 = .ok (.if_icmp .ge 18, 3) := by decide +kernel
theorem dX4_count_160 : decode cX4_count 160 = .ok (.iload_n 2, 1) := by decide +kernel
theorem dX4_count_161 : decode cX4_count 161 = .ok (.aload_n 0, 1) := by decide +kernel
theorem dX4_count_162 : decode cX4_count 162 = .ok (.getfield 41, 3) := by decide +kernel
theorem dX4_count_165 : decode cX4_count 165 = .ok (.iload_n 3, 1) := by decide +kernel
theorem dX4_count_166 : decode cX4_count 166 = .ok (.iaload, 1) := by decide +kernel
theorem dX4_count_167 : decode cX4_count 167 = .ok (.iadd, 1) := by decide +kernel
theorem dX4_count_168 : decode cX4_count 168 = .ok (.istore_n 2, 1) := by decide +kernel
theorem dX4_count_169 : decode cX4_count 169 = .ok (.iinc 3 1, 3) := by decide +kernel
theorem dX4_count_172 : decode cX4_count 172 = .ok (.goto (-20), 3) := by decide +kernel
theorem dX4_count_175 : decode cX4_count 175 = .ok (.iload_n 2, 1) := by decide +kernel
theorem dX4_count_176 : decode cX4_count 176 = .ok (.ireturn, 1) := by decide +kernel
theorem dX4_count_177 : decode cX4_count 177 = .ok (.bipush (-9), 2) := by decide +kernel
theorem dX4_count_179 : decode cX4_count 179 = .ok (.ireturn, 1) := by decide +kernel
end
section
theorem pz_ixof {x : Int32} {n : Nat} (h : 0 ≤ x.toInt) (h2 : x.toInt < (nI n).toInt) (hn : n < 2 ^ 31) : ∃ j : Nat, j < n ∧ x = nI j := by
  have h0 : ¬ x < 0 := fun q => by
    have h8 := pz_lt q
    have h9 : (0 : Int32).toInt = 0 := by decide
    omega
  obtain ⟨j, hj, e⟩ := nI_of h0
  refine ⟨j, ?_, e⟩
  have e2 : x.toInt = (j : Int) := by rw [e]; exact nI_toInt hj
  have e3 := nI_toInt hn
  omega
theorem pz_cases16 {x : Int32} (h : ¬ (x.toInt < 0 ∨ 15 < x.toInt)) : x = 0 ∨ x = 1 ∨ x = 2 ∨ x = 3 ∨ x = 4 ∨ x = 5 ∨ x = 6 ∨ x = 7 ∨ x = 8 ∨ x = 9 ∨ x = 10 ∨ x = 11 ∨ x = 12 ∨ x = 13 ∨ x = 14 ∨ x = 15 := by
  obtain ⟨j, hj, e⟩ := pz_case (n := 15) h (by decide)
  subst e
  have hh : ∀ j : Nat, j < 16 → (nI j = 0 ∨ nI j = 1 ∨ nI j = 2 ∨ nI j = 3 ∨ nI j = 4 ∨ nI j = 5 ∨ nI j = 6 ∨ nI j = 7 ∨ nI j = 8 ∨ nI j = 9 ∨ nI j = 10 ∨ nI j = 11 ∨ nI j = 12 ∨ nI j = 13 ∨ nI j = 14 ∨ nI j = 15) := by decide +kernel
  exact hh j (by omega)
theorem pz_cases11 {x : Int32} (h : ¬ (x.toInt < 0 ∨ 10 < x.toInt)) : x = 0 ∨ x = 1 ∨ x = 2 ∨ x = 3 ∨ x = 4 ∨ x = 5 ∨ x = 6 ∨ x = 7 ∨ x = 8 ∨ x = 9 ∨ x = 10 := by
  obtain ⟨j, hj, e⟩ := pz_case (n := 10) h (by decide)
  subst e
  have hh : ∀ j : Nat, j < 11 → (nI j = 0 ∨ nI j = 1 ∨ nI j = 2 ∨ nI j = 3 ∨ nI j = 4 ∨ nI j = 5 ∨ nI j = 6 ∨ nI j = 7 ∨ nI j = 8 ∨ nI j = 9 ∨ nI j = 10) := by decide +kernel
  exact hh j (by omega)
def gMark (s m : Int32) : Int32 := 40503 * (4 * s + m + 1) - 40503 * (4 * s + m + 1) / 65536 * 65536
def exMark (ns : Nat) (s m : Int32) : Int32 := if s.toInt < 0 ∨ (nI ns).toInt ≤ s.toInt then -1 else if m.toInt < 0 ∨ 4 ≤ m.toInt then -2 else gMark s m
/-! the reference in any state: its ints I (by the places of its fields), its rows F (by the places of their fields) -/
abbrev gFs (R : Nat → Nat) (I : Nat → Int32) : List Value := [.ref (R 0), .int (I 1), .int (I 2), .int (I 3), .int (I 4), .int (I 5), .int (I 6), .int (I 7), .int (I 8), .int (I 9), .int (I 10), .ref (R 11), .ref (R 12), .ref (R 13), .ref (R 14), .ref (R 15), .ref (R 16), .ref (R 17), .ref (R 18), .ref (R 19), .ref (R 20), .ref (R 21), .ref (R 22), .ref (R 23), .ref (R 24), .ref (R 25), .ref (R 26), .ref (R 27), .ref (R 28), .ref (R 29), .ref (R 30), .ref (R 31), .ref (R 32), .ref (R 33), .ref (R 34), .ref (R 35), .ref (R 36), .ref (R 37), .ref (R 38), .ref (R 39), .ref (R 40), .ref (R 41), .int (I 42)]
abbrev gRow (R : Nat → Nat) (C : Nat → ClassId) (F : Nat → Nat → Int32) (n k : Nat) : Nat × va_E := (R k, .inl (C k, n, .inl (F k)))
abbrev gW (h0 : Nat) (R : Nat → Nat) (C : Nat → ClassId) (I : Nat → Int32) (F : Nat → Nat → Int32) : va_W := [(h0, .inr (5, gFs R I)), gRow R C F 7 0, gRow R C F 8 11, gRow R C F 8 12, gRow R C F 8 13, gRow R C F 8 14, gRow R C F 8 15, gRow R C F 8 16, gRow R C F 8 17, gRow R C F 8 18, gRow R C F 8 19, gRow R C F 8 20, gRow R C F 8 21, gRow R C F 8 22, gRow R C F 8 23, gRow R C F 8 24, gRow R C F 8 25, gRow R C F 8 26, gRow R C F 200 27, gRow R C F 200 28, gRow R C F 200 29, gRow R C F 200 30, gRow R C F 200 31, gRow R C F 200 32, gRow R C F 200 33, gRow R C F 200 34, gRow R C F 200 35, gRow R C F 200 36, gRow R C F 400 37, gRow R C F 400 38, gRow R C F 400 39, gRow R C F 400 40, gRow R C F 200 41]
abbrev gT (C : Nat → ClassId) : List (ClassId × FieldType) := [(C 0, .int), (C 11, .int), (C 12, .int), (C 13, .int), (C 14, .int), (C 15, .int), (C 16, .int), (C 17, .int), (C 18, .int), (C 19, .int), (C 20, .int), (C 21, .int), (C 22, .int), (C 23, .int), (C 24, .int), (C 25, .int), (C 26, .int), (C 27, .int), (C 28, .int), (C 29, .int), (C 30, .int), (C 31, .int), (C 32, .int), (C 33, .int), (C 34, .int), (C 35, .int), (C 36, .boolean), (C 37, .int), (C 38, .int), (C 39, .int), (C 40, .boolean), (C 41, .int)]
theorem gI_1 (h0 : Nat) (R : Nat → Nat) (C : Nat → ClassId) (I : Nat → Int32) (F : Nat → Nat → Int32) (v : Int32) : (gW h0 R C I F).set 0 (h0, .inr (5, (gFs R I).set 1 (.int v))) = gW h0 R C (va_up I 1 v) F := rfl
theorem gI_2 (h0 : Nat) (R : Nat → Nat) (C : Nat → ClassId) (I : Nat → Int32) (F : Nat → Nat → Int32) (v : Int32) : (gW h0 R C I F).set 0 (h0, .inr (5, (gFs R I).set 2 (.int v))) = gW h0 R C (va_up I 2 v) F := rfl
theorem gI_3 (h0 : Nat) (R : Nat → Nat) (C : Nat → ClassId) (I : Nat → Int32) (F : Nat → Nat → Int32) (v : Int32) : (gW h0 R C I F).set 0 (h0, .inr (5, (gFs R I).set 3 (.int v))) = gW h0 R C (va_up I 3 v) F := rfl
theorem gI_4 (h0 : Nat) (R : Nat → Nat) (C : Nat → ClassId) (I : Nat → Int32) (F : Nat → Nat → Int32) (v : Int32) : (gW h0 R C I F).set 0 (h0, .inr (5, (gFs R I).set 4 (.int v))) = gW h0 R C (va_up I 4 v) F := rfl
theorem gI_5 (h0 : Nat) (R : Nat → Nat) (C : Nat → ClassId) (I : Nat → Int32) (F : Nat → Nat → Int32) (v : Int32) : (gW h0 R C I F).set 0 (h0, .inr (5, (gFs R I).set 5 (.int v))) = gW h0 R C (va_up I 5 v) F := rfl
theorem gI_6 (h0 : Nat) (R : Nat → Nat) (C : Nat → ClassId) (I : Nat → Int32) (F : Nat → Nat → Int32) (v : Int32) : (gW h0 R C I F).set 0 (h0, .inr (5, (gFs R I).set 6 (.int v))) = gW h0 R C (va_up I 6 v) F := rfl
theorem gI_7 (h0 : Nat) (R : Nat → Nat) (C : Nat → ClassId) (I : Nat → Int32) (F : Nat → Nat → Int32) (v : Int32) : (gW h0 R C I F).set 0 (h0, .inr (5, (gFs R I).set 7 (.int v))) = gW h0 R C (va_up I 7 v) F := rfl
theorem gI_8 (h0 : Nat) (R : Nat → Nat) (C : Nat → ClassId) (I : Nat → Int32) (F : Nat → Nat → Int32) (v : Int32) : (gW h0 R C I F).set 0 (h0, .inr (5, (gFs R I).set 8 (.int v))) = gW h0 R C (va_up I 8 v) F := rfl
theorem gI_9 (h0 : Nat) (R : Nat → Nat) (C : Nat → ClassId) (I : Nat → Int32) (F : Nat → Nat → Int32) (v : Int32) : (gW h0 R C I F).set 0 (h0, .inr (5, (gFs R I).set 9 (.int v))) = gW h0 R C (va_up I 9 v) F := rfl
theorem gI_10 (h0 : Nat) (R : Nat → Nat) (C : Nat → ClassId) (I : Nat → Int32) (F : Nat → Nat → Int32) (v : Int32) : (gW h0 R C I F).set 0 (h0, .inr (5, (gFs R I).set 10 (.int v))) = gW h0 R C (va_up I 10 v) F := rfl
theorem gI_42 (h0 : Nat) (R : Nat → Nat) (C : Nat → ClassId) (I : Nat → Int32) (F : Nat → Nat → Int32) (v : Int32) : (gW h0 R C I F).set 0 (h0, .inr (5, (gFs R I).set 42 (.int v))) = gW h0 R C (va_up I 42 v) F := rfl
theorem gF_0 (h0 : Nat) (R : Nat → Nat) (C : Nat → ClassId) (I : Nat → Int32) (F : Nat → Nat → Int32) (f : Nat → Int32) : (gW h0 R C I F).set 1 (R 0, .inl (C 0, 7, .inl f)) = gW h0 R C I (va_up F 0 f) := rfl
theorem gF_11 (h0 : Nat) (R : Nat → Nat) (C : Nat → ClassId) (I : Nat → Int32) (F : Nat → Nat → Int32) (f : Nat → Int32) : (gW h0 R C I F).set 2 (R 11, .inl (C 11, 8, .inl f)) = gW h0 R C I (va_up F 11 f) := rfl
theorem gF_12 (h0 : Nat) (R : Nat → Nat) (C : Nat → ClassId) (I : Nat → Int32) (F : Nat → Nat → Int32) (f : Nat → Int32) : (gW h0 R C I F).set 3 (R 12, .inl (C 12, 8, .inl f)) = gW h0 R C I (va_up F 12 f) := rfl
theorem gF_13 (h0 : Nat) (R : Nat → Nat) (C : Nat → ClassId) (I : Nat → Int32) (F : Nat → Nat → Int32) (f : Nat → Int32) : (gW h0 R C I F).set 4 (R 13, .inl (C 13, 8, .inl f)) = gW h0 R C I (va_up F 13 f) := rfl
theorem gF_14 (h0 : Nat) (R : Nat → Nat) (C : Nat → ClassId) (I : Nat → Int32) (F : Nat → Nat → Int32) (f : Nat → Int32) : (gW h0 R C I F).set 5 (R 14, .inl (C 14, 8, .inl f)) = gW h0 R C I (va_up F 14 f) := rfl
theorem gF_15 (h0 : Nat) (R : Nat → Nat) (C : Nat → ClassId) (I : Nat → Int32) (F : Nat → Nat → Int32) (f : Nat → Int32) : (gW h0 R C I F).set 6 (R 15, .inl (C 15, 8, .inl f)) = gW h0 R C I (va_up F 15 f) := rfl
theorem gF_16 (h0 : Nat) (R : Nat → Nat) (C : Nat → ClassId) (I : Nat → Int32) (F : Nat → Nat → Int32) (f : Nat → Int32) : (gW h0 R C I F).set 7 (R 16, .inl (C 16, 8, .inl f)) = gW h0 R C I (va_up F 16 f) := rfl
theorem gF_17 (h0 : Nat) (R : Nat → Nat) (C : Nat → ClassId) (I : Nat → Int32) (F : Nat → Nat → Int32) (f : Nat → Int32) : (gW h0 R C I F).set 8 (R 17, .inl (C 17, 8, .inl f)) = gW h0 R C I (va_up F 17 f) := rfl
theorem gF_18 (h0 : Nat) (R : Nat → Nat) (C : Nat → ClassId) (I : Nat → Int32) (F : Nat → Nat → Int32) (f : Nat → Int32) : (gW h0 R C I F).set 9 (R 18, .inl (C 18, 8, .inl f)) = gW h0 R C I (va_up F 18 f) := rfl
theorem gF_19 (h0 : Nat) (R : Nat → Nat) (C : Nat → ClassId) (I : Nat → Int32) (F : Nat → Nat → Int32) (f : Nat → Int32) : (gW h0 R C I F).set 10 (R 19, .inl (C 19, 8, .inl f)) = gW h0 R C I (va_up F 19 f) := rfl
theorem gF_20 (h0 : Nat) (R : Nat → Nat) (C : Nat → ClassId) (I : Nat → Int32) (F : Nat → Nat → Int32) (f : Nat → Int32) : (gW h0 R C I F).set 11 (R 20, .inl (C 20, 8, .inl f)) = gW h0 R C I (va_up F 20 f) := rfl
theorem gF_21 (h0 : Nat) (R : Nat → Nat) (C : Nat → ClassId) (I : Nat → Int32) (F : Nat → Nat → Int32) (f : Nat → Int32) : (gW h0 R C I F).set 12 (R 21, .inl (C 21, 8, .inl f)) = gW h0 R C I (va_up F 21 f) := rfl
theorem gF_22 (h0 : Nat) (R : Nat → Nat) (C : Nat → ClassId) (I : Nat → Int32) (F : Nat → Nat → Int32) (f : Nat → Int32) : (gW h0 R C I F).set 13 (R 22, .inl (C 22, 8, .inl f)) = gW h0 R C I (va_up F 22 f) := rfl
theorem gF_23 (h0 : Nat) (R : Nat → Nat) (C : Nat → ClassId) (I : Nat → Int32) (F : Nat → Nat → Int32) (f : Nat → Int32) : (gW h0 R C I F).set 14 (R 23, .inl (C 23, 8, .inl f)) = gW h0 R C I (va_up F 23 f) := rfl
theorem gF_24 (h0 : Nat) (R : Nat → Nat) (C : Nat → ClassId) (I : Nat → Int32) (F : Nat → Nat → Int32) (f : Nat → Int32) : (gW h0 R C I F).set 15 (R 24, .inl (C 24, 8, .inl f)) = gW h0 R C I (va_up F 24 f) := rfl
theorem gF_25 (h0 : Nat) (R : Nat → Nat) (C : Nat → ClassId) (I : Nat → Int32) (F : Nat → Nat → Int32) (f : Nat → Int32) : (gW h0 R C I F).set 16 (R 25, .inl (C 25, 8, .inl f)) = gW h0 R C I (va_up F 25 f) := rfl
theorem gF_26 (h0 : Nat) (R : Nat → Nat) (C : Nat → ClassId) (I : Nat → Int32) (F : Nat → Nat → Int32) (f : Nat → Int32) : (gW h0 R C I F).set 17 (R 26, .inl (C 26, 8, .inl f)) = gW h0 R C I (va_up F 26 f) := rfl
theorem gF_27 (h0 : Nat) (R : Nat → Nat) (C : Nat → ClassId) (I : Nat → Int32) (F : Nat → Nat → Int32) (f : Nat → Int32) : (gW h0 R C I F).set 18 (R 27, .inl (C 27, 200, .inl f)) = gW h0 R C I (va_up F 27 f) := rfl
theorem gF_28 (h0 : Nat) (R : Nat → Nat) (C : Nat → ClassId) (I : Nat → Int32) (F : Nat → Nat → Int32) (f : Nat → Int32) : (gW h0 R C I F).set 19 (R 28, .inl (C 28, 200, .inl f)) = gW h0 R C I (va_up F 28 f) := rfl
theorem gF_29 (h0 : Nat) (R : Nat → Nat) (C : Nat → ClassId) (I : Nat → Int32) (F : Nat → Nat → Int32) (f : Nat → Int32) : (gW h0 R C I F).set 20 (R 29, .inl (C 29, 200, .inl f)) = gW h0 R C I (va_up F 29 f) := rfl
theorem gF_30 (h0 : Nat) (R : Nat → Nat) (C : Nat → ClassId) (I : Nat → Int32) (F : Nat → Nat → Int32) (f : Nat → Int32) : (gW h0 R C I F).set 21 (R 30, .inl (C 30, 200, .inl f)) = gW h0 R C I (va_up F 30 f) := rfl
theorem gF_31 (h0 : Nat) (R : Nat → Nat) (C : Nat → ClassId) (I : Nat → Int32) (F : Nat → Nat → Int32) (f : Nat → Int32) : (gW h0 R C I F).set 22 (R 31, .inl (C 31, 200, .inl f)) = gW h0 R C I (va_up F 31 f) := rfl
theorem gF_32 (h0 : Nat) (R : Nat → Nat) (C : Nat → ClassId) (I : Nat → Int32) (F : Nat → Nat → Int32) (f : Nat → Int32) : (gW h0 R C I F).set 23 (R 32, .inl (C 32, 200, .inl f)) = gW h0 R C I (va_up F 32 f) := rfl
theorem gF_33 (h0 : Nat) (R : Nat → Nat) (C : Nat → ClassId) (I : Nat → Int32) (F : Nat → Nat → Int32) (f : Nat → Int32) : (gW h0 R C I F).set 24 (R 33, .inl (C 33, 200, .inl f)) = gW h0 R C I (va_up F 33 f) := rfl
theorem gF_34 (h0 : Nat) (R : Nat → Nat) (C : Nat → ClassId) (I : Nat → Int32) (F : Nat → Nat → Int32) (f : Nat → Int32) : (gW h0 R C I F).set 25 (R 34, .inl (C 34, 200, .inl f)) = gW h0 R C I (va_up F 34 f) := rfl
theorem gF_35 (h0 : Nat) (R : Nat → Nat) (C : Nat → ClassId) (I : Nat → Int32) (F : Nat → Nat → Int32) (f : Nat → Int32) : (gW h0 R C I F).set 26 (R 35, .inl (C 35, 200, .inl f)) = gW h0 R C I (va_up F 35 f) := rfl
theorem gF_36 (h0 : Nat) (R : Nat → Nat) (C : Nat → ClassId) (I : Nat → Int32) (F : Nat → Nat → Int32) (f : Nat → Int32) : (gW h0 R C I F).set 27 (R 36, .inl (C 36, 200, .inl f)) = gW h0 R C I (va_up F 36 f) := rfl
theorem gF_37 (h0 : Nat) (R : Nat → Nat) (C : Nat → ClassId) (I : Nat → Int32) (F : Nat → Nat → Int32) (f : Nat → Int32) : (gW h0 R C I F).set 28 (R 37, .inl (C 37, 400, .inl f)) = gW h0 R C I (va_up F 37 f) := rfl
theorem gF_38 (h0 : Nat) (R : Nat → Nat) (C : Nat → ClassId) (I : Nat → Int32) (F : Nat → Nat → Int32) (f : Nat → Int32) : (gW h0 R C I F).set 29 (R 38, .inl (C 38, 400, .inl f)) = gW h0 R C I (va_up F 38 f) := rfl
theorem gF_39 (h0 : Nat) (R : Nat → Nat) (C : Nat → ClassId) (I : Nat → Int32) (F : Nat → Nat → Int32) (f : Nat → Int32) : (gW h0 R C I F).set 30 (R 39, .inl (C 39, 400, .inl f)) = gW h0 R C I (va_up F 39 f) := rfl
theorem gF_40 (h0 : Nat) (R : Nat → Nat) (C : Nat → ClassId) (I : Nat → Int32) (F : Nat → Nat → Int32) (f : Nat → Int32) : (gW h0 R C I F).set 31 (R 40, .inl (C 40, 400, .inl f)) = gW h0 R C I (va_up F 40 f) := rfl
theorem gF_41 (h0 : Nat) (R : Nat → Nat) (C : Nat → ClassId) (I : Nat → Int32) (F : Nat → Nat → Int32) (f : Nat → Int32) : (gW h0 R C I F).set 32 (R 41, .inl (C 41, 200, .inl f)) = gW h0 R C I (va_up F 41 f) := rfl
end
section
set_option maxHeartbeats 40000000 in
set_option maxRecDepth 100000 in
theorem m_X4_isIn (l : Launch) (dC : Nat → ClassId) (dI : Nat → Nat → Nat) (k0 : Int32) (n0 : Int32) (sz : Nat) : Met l yX4_isIn wsX4_isIn ({ frames := 0, cells := 0, slots := 0, locals := 0 }) (va_Pc [.int k0, .int n0] (pzPre (dC, dI) vwCl [] [] sz)) (va_Qi (fun (r : Int32) (_ : Unit) => (0 ≤ k0.toInt ∧ k0.toInt < n0.toInt ∧ r = 1) ∨ ((k0.toInt < 0 ∨ n0.toInt ≤ k0.toInt) ∧ r = 0)) (fun _ _ => True) (va_A [] sz)) 0 0 (va_A [] sz) := by
  refine Met.ofW (cc := cX4_isIn) (maxL := 2) (ret := (some .boolean)) (by decide) rfl ?_
  intro p e s m args below meth c s₁ B hml hv
  obtain ⟨rfl, hsz, hP, hK, hD0⟩ := hv
  have hx := B.exec
  have hb := B.bytes
  have hr := B.returns
  have hts := atoms_spec (ws := wsX4_isIn) B.pre
  have hown : s.vm.findClass RX4 = some m.cls := findClass_of_methodNamed B.named
  have hlocks := B.notSynchronized
  subst hsz
  have hA : ∀ q : Nat, s.heap.size ≤ q → va_A [] s.heap.size q := fun q h => Or.inr h
  have hD := hD0
  generalize va_A [] s.heap.size = A at hA ⊢
  have hS : va_S A s.heap s.heap [] := va_S.rf
  have hP : va_P (dC, dI) vwCl [] s.heap := hP
  have hl := lv_entry ([.int k0, .int n0]) (n := 2) (Nat.le_of_ble_eq_true rfl)
  rw [lg_entry_eq]
  generalize (lg_sl ([.int k0, .int n0]) ++ List.replicate (2 - (lg_sl ([.int k0, .int n0])).length) Slot.unset).toArray = ls at hl ⊢
  have hl : lv_has ls 2 [(0, .int k0), (1, .int n0)] := hl
  refine lv_iload_n hx hb dX4_isIn_0 rfl (lv_at hl 0 rfl) ?_
  refine lv_if_lt (tgt := 13) hx hb dX4_isIn_1 (by decide) (fun c_1 => ?_) (fun c_1 => ?_)
  · skip
    have i_1 : k0.toInt < 0 := by have h9 := pz_lt c_1; exact h9
    refine lv_iconst (v := 0) hx hb dX4_isIn_13 (by decide) ?_
    exact W.zret (v := 0) hx hb hr rfl (fun t ht hW => ⟨⟨0, (), rfl, (Or.inr (⟨(by omega), rfl⟩)), trivial⟩, hS.F ht⟩) hS.2.2 dX4_isIn_14
  · skip
    have i_1 : 0 ≤ k0.toInt := by have h9 := pz_nlt c_1; exact h9
    refine lv_iload_n hx hb dX4_isIn_4 rfl (lv_at hl 0 rfl) ?_
    refine lv_iload_n hx hb dX4_isIn_5 rfl (lv_at hl 1 rfl) ?_
    refine lv_icmp_ge (tgt := 13) hx hb dX4_isIn_6 (by decide) (fun c_2 => ?_) (fun c_2 => ?_)
    · skip
      have i_2 : n0.toInt ≤ k0.toInt := by have h9 := pz_ge c_2; exact h9
      refine lv_iconst (v := 0) hx hb dX4_isIn_13 (by decide) ?_
      exact W.zret (v := 0) hx hb hr rfl (fun t ht hW => ⟨⟨0, (), rfl, (Or.inr (⟨(by omega), rfl⟩)), trivial⟩, hS.F ht⟩) hS.2.2 dX4_isIn_14
    · skip
      have i_2 : k0.toInt < n0.toInt := by have h9 := pz_nge c_2; exact h9
      refine lv_iconst (v := 1) hx hb dX4_isIn_9 (by decide) ?_
      refine lv_goto (tgt := 14) hx hb dX4_isIn_10 (by decide) ?_
      exact W.zret (v := 1) hx hb hr rfl (fun t ht hW => ⟨⟨1, (), rfl, (Or.inl (⟨(by omega), (by omega), rfl⟩)), trivial⟩, hS.F ht⟩) hS.2.2 dX4_isIn_14

set_option maxHeartbeats 40000000 in
set_option maxRecDepth 100000 in
theorem m_X4_isServer (l : Launch) (dC : Nat → ClassId) (dI : Nat → Nat → Nat) (h0 : Nat) (R : Nat → Nat) (C : Nat → ClassId) (I : Nat → Int32) (F : Nat → Nat → Int32) (ns : Nat) (k0 : Int32) (sz : Nat) (hns : I 2 = nI ns) (hbn : ns ≤ 8) : Met l yX4_isServer wsX4_isServer ({ frames := 1, cells := 0, slots := 0, locals := 21 }) (va_Pc [.ref h0, .int k0] (pzPre (dC, dI) vwCl (gW h0 R C I F) (gT C) sz)) (va_Qi (fun (r : Int32) (_ : Unit) => (0 ≤ k0.toInt ∧ k0.toInt < (nI ns).toInt ∧ r = 1) ∨ ((k0.toInt < 0 ∨ (nI ns).toInt ≤ k0.toInt) ∧ r = 0)) (fun _ _ => True) (va_A [] sz)) 0 0 (va_A [] sz) := by
  refine Met.ofW (cc := cX4_isServer) (maxL := 2) (ret := (some .boolean)) (by decide) rfl ?_
  intro p e s m args below meth c s₁ B hml hv
  obtain ⟨rfl, hsz, hP, hK, hD0⟩ := hv
  have hx := B.exec
  have hb := B.bytes
  have hr := B.returns
  have hts := atoms_spec (ws := wsX4_isServer) B.pre
  have hown : s.vm.findClass RX4 = some m.cls := findClass_of_methodNamed B.named
  have hlocks := B.notSynchronized
  subst hsz
  have hA : ∀ q : Nat, s.heap.size ≤ q → va_A [] s.heap.size q := fun q h => Or.inr h
  have hD := hD0
  generalize va_A [] s.heap.size = A at hA ⊢
  have hS : va_S A s.heap s.heap [] := va_S.rf
  have hP : va_P (dC, dI) vwCl (gW h0 R C I F) s.heap := hP
  have hnsI : (nI ns).toInt = (ns : Int) := nI_toInt (by omega)
  have hl := lv_entry ([.ref h0, .int k0]) (n := 2) (Nat.le_of_ble_eq_true rfl)
  rw [lg_entry_eq]
  generalize (lg_sl ([.ref h0, .int k0]) ++ List.replicate (2 - (lg_sl ([.ref h0, .int k0])).length) Slot.unset).toArray = ls at hl ⊢
  have hl : lv_has ls 2 [(0, .ref h0), (1, .int k0)] := hl
  refine lv_iload_n hx hb dX4_isServer_0 rfl (lv_at hl 1 rfl) ?_
  refine lv_aload_n hx hb dX4_isServer_1 rfl (lv_at hl 0 rfl) ?_
  refine va_get (D := (dC, dI)) (ci := 5) (v := .int (I 2)) (C := RX4) (T := TX4) (N := 43) hx hb hts (fun _ h => List.mem_cons_of_mem _ (List.mem_append_right _ h)) hown hK hP 0 rfl rfl 2 (by decide) (hts (.fieldLink RX4 114 "FrontDoorModel" "servers" "I") (by decide +kernel)) (fun _ h9 => h9) rfl dX4_isServer_2 ?_
  refine lv_topi (fun x_1 ex_1 => ?_)
  obtain rfl : x_1 = (nI ns) := ex_1.trans hns
  have hPc := hP.sub (ws' := []) [] rfl
  have hDc := hD.sub (ws' := []) [] (by decide) rfl
  have hKc := hK.sub (tys' := []) [] rfl
  have hFc := pz_f hA hS
  refine va_calli (va_runS (As := [.int k0, .int (nI ns)]) (rest := []) ⟨hx, hb, hml, hown, hts⟩ (m_X4_isIn l dC dI k0 (nI ns) s.heap.size) (va_cwS 2 hts gX4_isServer_X4_isIn rfl rfl rfl (by decide +kernel) ⟨Nat.le_of_ble_eq_true rfl, Nat.le_of_ble_eq_true rfl⟩) ⟨pz_blind, fun U hU hW => ⟨rfl, pz_at hPc hKc hDc hU hW⟩⟩ rfl rfl hl.1 rfl (lv_room (Nat.le_of_ble_eq_true rfl)) dX4_isServer_5 ⟨Nat.le_of_ble_eq_true rfl, Nat.le_of_ble_eq_true rfl⟩) hS (fun q _ h => hFc q h) hFc (fun r_2 u t H locs ht hvm hw hB hz1 hk1 hS => ?_)
  have hP := pz_keep hP hk1
  rcases hw with ⟨f_2_0, f_2_1, hr9⟩ | ⟨f_2_0, hr9⟩
  · skip
    have hr9 : r_2 = 1 := hr9
    subst hr9
    have f_2_0 : 0 ≤ k0.toInt := pz_id f_2_0
    have f_2_1 : k0.toInt < (nI ns).toInt := pz_id f_2_1
    exact W.zret (v := 1) hx hb hr rfl (fun t ht hW => ⟨⟨1, (), rfl, (Or.inl (⟨(by omega), (by omega), rfl⟩)), trivial⟩, hS.F ht⟩) hS.2.2 dX4_isServer_8
  · skip
    have hr9 : r_2 = 0 := hr9
    subst hr9
    have f_2_0 : (k0.toInt < 0 ∨ (nI ns).toInt ≤ k0.toInt) := pz_id f_2_0
    exact W.zret (v := 0) hx hb hr rfl (fun t ht hW => ⟨⟨0, (), rfl, (Or.inr (⟨(by omega), rfl⟩)), trivial⟩, hS.F ht⟩) hS.2.2 dX4_isServer_8

set_option maxHeartbeats 40000000 in
set_option maxRecDepth 100000 in
theorem m_X4_isCall (l : Launch) (dC : Nat → ClassId) (dI : Nat → Nat → Nat) (h0 : Nat) (R : Nat → Nat) (C : Nat → ClassId) (I : Nat → Int32) (F : Nat → Nat → Int32) (nc : Nat) (k0 : Int32) (sz : Nat) (hnc : I 3 = nI nc) (hbc : nc ≤ 200) : Met l yX4_isCall wsX4_isCall ({ frames := 1, cells := 0, slots := 0, locals := 21 }) (va_Pc [.ref h0, .int k0] (pzPre (dC, dI) vwCl (gW h0 R C I F) (gT C) sz)) (va_Qi (fun (r : Int32) (_ : Unit) => (0 ≤ k0.toInt ∧ k0.toInt < (nI nc).toInt ∧ r = 1) ∨ ((k0.toInt < 0 ∨ (nI nc).toInt ≤ k0.toInt) ∧ r = 0)) (fun _ _ => True) (va_A [] sz)) 0 0 (va_A [] sz) := by
  refine Met.ofW (cc := cX4_isCall) (maxL := 2) (ret := (some .boolean)) (by decide) rfl ?_
  intro p e s m args below meth c s₁ B hml hv
  obtain ⟨rfl, hsz, hP, hK, hD0⟩ := hv
  have hx := B.exec
  have hb := B.bytes
  have hr := B.returns
  have hts := atoms_spec (ws := wsX4_isCall) B.pre
  have hown : s.vm.findClass RX4 = some m.cls := findClass_of_methodNamed B.named
  have hlocks := B.notSynchronized
  subst hsz
  have hA : ∀ q : Nat, s.heap.size ≤ q → va_A [] s.heap.size q := fun q h => Or.inr h
  have hD := hD0
  generalize va_A [] s.heap.size = A at hA ⊢
  have hS : va_S A s.heap s.heap [] := va_S.rf
  have hP : va_P (dC, dI) vwCl (gW h0 R C I F) s.heap := hP
  have hncI : (nI nc).toInt = (nc : Int) := nI_toInt (by omega)
  have hl := lv_entry ([.ref h0, .int k0]) (n := 2) (Nat.le_of_ble_eq_true rfl)
  rw [lg_entry_eq]
  generalize (lg_sl ([.ref h0, .int k0]) ++ List.replicate (2 - (lg_sl ([.ref h0, .int k0])).length) Slot.unset).toArray = ls at hl ⊢
  have hl : lv_has ls 2 [(0, .ref h0), (1, .int k0)] := hl
  refine lv_iload_n hx hb dX4_isCall_0 rfl (lv_at hl 1 rfl) ?_
  refine lv_aload_n hx hb dX4_isCall_1 rfl (lv_at hl 0 rfl) ?_
  refine va_get (D := (dC, dI)) (ci := 5) (v := .int (I 3)) (C := RX4) (T := TX4) (N := 43) hx hb hts (fun _ h => List.mem_cons_of_mem _ (List.mem_append_right _ h)) hown hK hP 0 rfl rfl 3 (by decide) (hts (.fieldLink RX4 121 "FrontDoorModel" "calls" "I") (by decide +kernel)) (fun _ h9 => h9) rfl dX4_isCall_2 ?_
  refine lv_topi (fun x_1 ex_1 => ?_)
  obtain rfl : x_1 = (nI nc) := ex_1.trans hnc
  have hPc := hP.sub (ws' := []) [] rfl
  have hDc := hD.sub (ws' := []) [] (by decide) rfl
  have hKc := hK.sub (tys' := []) [] rfl
  have hFc := pz_f hA hS
  refine va_calli (va_runS (As := [.int k0, .int (nI nc)]) (rest := []) ⟨hx, hb, hml, hown, hts⟩ (m_X4_isIn l dC dI k0 (nI nc) s.heap.size) (va_cwS 2 hts gX4_isCall_X4_isIn rfl rfl rfl (by decide +kernel) ⟨Nat.le_of_ble_eq_true rfl, Nat.le_of_ble_eq_true rfl⟩) ⟨pz_blind, fun U hU hW => ⟨rfl, pz_at hPc hKc hDc hU hW⟩⟩ rfl rfl hl.1 rfl (lv_room (Nat.le_of_ble_eq_true rfl)) dX4_isCall_5 ⟨Nat.le_of_ble_eq_true rfl, Nat.le_of_ble_eq_true rfl⟩) hS (fun q _ h => hFc q h) hFc (fun r_2 u t H locs ht hvm hw hB hz1 hk1 hS => ?_)
  have hP := pz_keep hP hk1
  rcases hw with ⟨f_2_0, f_2_1, hr9⟩ | ⟨f_2_0, hr9⟩
  · skip
    have hr9 : r_2 = 1 := hr9
    subst hr9
    have f_2_0 : 0 ≤ k0.toInt := pz_id f_2_0
    have f_2_1 : k0.toInt < (nI nc).toInt := pz_id f_2_1
    exact W.zret (v := 1) hx hb hr rfl (fun t ht hW => ⟨⟨1, (), rfl, (Or.inl (⟨(by omega), (by omega), rfl⟩)), trivial⟩, hS.F ht⟩) hS.2.2 dX4_isCall_8
  · skip
    have hr9 : r_2 = 0 := hr9
    subst hr9
    have f_2_0 : (k0.toInt < 0 ∨ (nI nc).toInt ≤ k0.toInt) := pz_id f_2_0
    exact W.zret (v := 0) hx hb hr rfl (fun t ht hW => ⟨⟨0, (), rfl, (Or.inr (⟨(by omega), rfl⟩)), trivial⟩, hS.F ht⟩) hS.2.2 dX4_isCall_8

set_option maxHeartbeats 40000000 in
set_option maxRecDepth 100000 in
theorem m_X4_refuse1 (l : Launch) (dC : Nat → ClassId) (dI : Nat → Nat → Nat) (h0 : Nat) (R : Nat → Nat) (C : Nat → ClassId) (I : Nat → Int32) (F : Nat → Nat → Int32) (sz : Nat) : Met l yX4_refuse wsX4_refuse ({ frames := 0, cells := 0, slots := 0, locals := 0 }) (va_Pc [.ref h0, .int (-1)] (pzPre (dC, dI) vwCl (gW h0 R C I F) (gT C) sz)) (va_Qi (fun (r : Int32) (u : (Nat → Int32) × (Nat → Nat → Int32)) => r = (-1) ∧ u.1 = I ∧ ∀ k, k ≠ 0 → u.2 k = F k) (fun (u : (Nat → Int32) × (Nat → Nat → Int32)) (t : State) => va_P (dC, dI) vwCl (gW h0 R C u.1 u.2) t.heap ∧ va_K (dC, dI) vwCl (gT C) t ∧ va_D (va_A (gW h0 R C I F) sz) (gW h0 R C u.1 u.2)) (va_A (gW h0 R C I F) sz)) 0 0 (va_A (gW h0 R C I F) sz) := by
  refine Met.ofW (cc := cX4_refuse) (maxL := 2) (ret := (some .int)) (by decide) rfl ?_
  intro p e s m args below meth c s₁ B hml hv
  obtain ⟨rfl, hsz, hP, hK, hD0⟩ := hv
  have hx := B.exec
  have hb := B.bytes
  have hr := B.returns
  have hts := atoms_spec (ws := wsX4_refuse) B.pre
  have hown : s.vm.findClass RX4 = some m.cls := findClass_of_methodNamed B.named
  have hlocks := B.notSynchronized
  subst hsz
  have hD := hD0.self (sz := s.heap.size)
  generalize hAe : va_A (gW h0 R C I F) s.heap.size = A at hD ⊢
  have hA : ∀ q : Nat, s.heap.size ≤ q → A q := fun q h => by rw [← hAe]; exact Or.inr h
  have hS : va_S A s.heap s.heap [] := va_S.rf
  have hP : va_P (dC, dI) vwCl (gW h0 R C I F) s.heap := hP
  have hl := lv_entry ([.ref h0, .int (-1)]) (n := 2) (Nat.le_of_ble_eq_true rfl)
  rw [lg_entry_eq]
  generalize (lg_sl ([.ref h0, .int (-1)]) ++ List.replicate (2 - (lg_sl ([.ref h0, .int (-1)])).length) Slot.unset).toArray = ls at hl ⊢
  have hl : lv_has ls 2 [(0, .ref h0), (1, .int (-1))] := hl
  refine lv_aload_n hx hb dX4_refuse_0 rfl (lv_at hl 0 rfl) ?_
  refine va_get (D := (dC, dI)) (ci := 5) (v := .ref (R 0)) (C := RX4) (T := TX4) (N := 43) hx hb hts (fun _ h => List.mem_cons_of_mem _ (List.mem_append_right _ h)) hown hK hP 0 rfl rfl 0 (by decide) (hts (.fieldLink RX4 7 "FrontDoorModel" "refusals" "[I") (by decide +kernel)) (fun _ h9 => h9) rfl dX4_refuse_1 ?_
  refine lv_iload_n hx hb dX4_refuse_4 rfl (lv_at hl 1 rfl) ?_
  refine lv_ineg hx hb dX4_refuse_5 ?_
  refine lv_topi (fun x_1 ex_1 => ?_)
  obtain rfl : x_1 = 1 := ex_1.trans (by decide)
  refine lv_dup2_11 hx hb dX4_refuse_6 rfl rfl ?_
  refine va_iald hx hb hK hP 1 0 rfl rfl (by unfold vp_in; decide) dX4_refuse_7 ?_
  refine lv_topi (fun x_2 ex_2 => ?_)
  replace ex_2 : x_2 = (F 0) (Int32.toNatClampNeg 1) := ex_2
  refine lv_iconst (v := 1) hx hb dX4_refuse_8 (by decide) ?_
  refine lv_iadd hx hb dX4_refuse_9 ?_
  refine lv_topi (fun x_3 ex_3 => ?_)
  refine va_iast hx hb hK hP hD hS 1 0 rfl rfl (by unfold vp_in; decide) dX4_refuse_10 (fun H locs hP hD hS => ?_)
  have hP : va_P (dC, dI) vwCl (gW h0 R C I (va_up F 0 (upd (F 0) (Int32.toNatClampNeg 1) x_3))) H := hP
  have hD : va_D A (gW h0 R C I (va_up F 0 (upd (F 0) (Int32.toNatClampNeg 1) x_3))) := hD
  refine lv_iload_n hx hb dX4_refuse_11 rfl (lv_at hl 1 rfl) ?_
  exact W.iret (v := (-1)) hx hb hr (fun t ht hW => ⟨⟨(-1), (I, (va_up F 0 (upd (F 0) (Int32.toNatClampNeg 1) x_3))), rfl, ⟨rfl, rfl, fun k hk => va_up_ne _ _ hk⟩, by rw [ht]; exact hP, va_K.moved hW.alike hK, hD⟩, hS.F ht⟩) hS.2.2 dX4_refuse_12

set_option maxHeartbeats 40000000 in
set_option maxRecDepth 100000 in
theorem m_X4_refuse2 (l : Launch) (dC : Nat → ClassId) (dI : Nat → Nat → Nat) (h0 : Nat) (R : Nat → Nat) (C : Nat → ClassId) (I : Nat → Int32) (F : Nat → Nat → Int32) (sz : Nat) : Met l yX4_refuse wsX4_refuse ({ frames := 0, cells := 0, slots := 0, locals := 0 }) (va_Pc [.ref h0, .int (-2)] (pzPre (dC, dI) vwCl (gW h0 R C I F) (gT C) sz)) (va_Qi (fun (r : Int32) (u : (Nat → Int32) × (Nat → Nat → Int32)) => r = (-2) ∧ u.1 = I ∧ ∀ k, k ≠ 0 → u.2 k = F k) (fun (u : (Nat → Int32) × (Nat → Nat → Int32)) (t : State) => va_P (dC, dI) vwCl (gW h0 R C u.1 u.2) t.heap ∧ va_K (dC, dI) vwCl (gT C) t ∧ va_D (va_A (gW h0 R C I F) sz) (gW h0 R C u.1 u.2)) (va_A (gW h0 R C I F) sz)) 0 0 (va_A (gW h0 R C I F) sz) := by
  refine Met.ofW (cc := cX4_refuse) (maxL := 2) (ret := (some .int)) (by decide) rfl ?_
  intro p e s m args below meth c s₁ B hml hv
  obtain ⟨rfl, hsz, hP, hK, hD0⟩ := hv
  have hx := B.exec
  have hb := B.bytes
  have hr := B.returns
  have hts := atoms_spec (ws := wsX4_refuse) B.pre
  have hown : s.vm.findClass RX4 = some m.cls := findClass_of_methodNamed B.named
  have hlocks := B.notSynchronized
  subst hsz
  have hD := hD0.self (sz := s.heap.size)
  generalize hAe : va_A (gW h0 R C I F) s.heap.size = A at hD ⊢
  have hA : ∀ q : Nat, s.heap.size ≤ q → A q := fun q h => by rw [← hAe]; exact Or.inr h
  have hS : va_S A s.heap s.heap [] := va_S.rf
  have hP : va_P (dC, dI) vwCl (gW h0 R C I F) s.heap := hP
  have hl := lv_entry ([.ref h0, .int (-2)]) (n := 2) (Nat.le_of_ble_eq_true rfl)
  rw [lg_entry_eq]
  generalize (lg_sl ([.ref h0, .int (-2)]) ++ List.replicate (2 - (lg_sl ([.ref h0, .int (-2)])).length) Slot.unset).toArray = ls at hl ⊢
  have hl : lv_has ls 2 [(0, .ref h0), (1, .int (-2))] := hl
  refine lv_aload_n hx hb dX4_refuse_0 rfl (lv_at hl 0 rfl) ?_
  refine va_get (D := (dC, dI)) (ci := 5) (v := .ref (R 0)) (C := RX4) (T := TX4) (N := 43) hx hb hts (fun _ h => List.mem_cons_of_mem _ (List.mem_append_right _ h)) hown hK hP 0 rfl rfl 0 (by decide) (hts (.fieldLink RX4 7 "FrontDoorModel" "refusals" "[I") (by decide +kernel)) (fun _ h9 => h9) rfl dX4_refuse_1 ?_
  refine lv_iload_n hx hb dX4_refuse_4 rfl (lv_at hl 1 rfl) ?_
  refine lv_ineg hx hb dX4_refuse_5 ?_
  refine lv_topi (fun x_1 ex_1 => ?_)
  obtain rfl : x_1 = 2 := ex_1.trans (by decide)
  refine lv_dup2_11 hx hb dX4_refuse_6 rfl rfl ?_
  refine va_iald hx hb hK hP 1 0 rfl rfl (by unfold vp_in; decide) dX4_refuse_7 ?_
  refine lv_topi (fun x_2 ex_2 => ?_)
  replace ex_2 : x_2 = (F 0) (Int32.toNatClampNeg 2) := ex_2
  refine lv_iconst (v := 1) hx hb dX4_refuse_8 (by decide) ?_
  refine lv_iadd hx hb dX4_refuse_9 ?_
  refine lv_topi (fun x_3 ex_3 => ?_)
  refine va_iast hx hb hK hP hD hS 1 0 rfl rfl (by unfold vp_in; decide) dX4_refuse_10 (fun H locs hP hD hS => ?_)
  have hP : va_P (dC, dI) vwCl (gW h0 R C I (va_up F 0 (upd (F 0) (Int32.toNatClampNeg 2) x_3))) H := hP
  have hD : va_D A (gW h0 R C I (va_up F 0 (upd (F 0) (Int32.toNatClampNeg 2) x_3))) := hD
  refine lv_iload_n hx hb dX4_refuse_11 rfl (lv_at hl 1 rfl) ?_
  exact W.iret (v := (-2)) hx hb hr (fun t ht hW => ⟨⟨(-2), (I, (va_up F 0 (upd (F 0) (Int32.toNatClampNeg 2) x_3))), rfl, ⟨rfl, rfl, fun k hk => va_up_ne _ _ hk⟩, by rw [ht]; exact hP, va_K.moved hW.alike hK, hD⟩, hS.F ht⟩) hS.2.2 dX4_refuse_12

set_option maxHeartbeats 40000000 in
set_option maxRecDepth 100000 in
theorem m_X4_refuse3 (l : Launch) (dC : Nat → ClassId) (dI : Nat → Nat → Nat) (h0 : Nat) (R : Nat → Nat) (C : Nat → ClassId) (I : Nat → Int32) (F : Nat → Nat → Int32) (sz : Nat) : Met l yX4_refuse wsX4_refuse ({ frames := 0, cells := 0, slots := 0, locals := 0 }) (va_Pc [.ref h0, .int (-3)] (pzPre (dC, dI) vwCl (gW h0 R C I F) (gT C) sz)) (va_Qi (fun (r : Int32) (u : (Nat → Int32) × (Nat → Nat → Int32)) => r = (-3) ∧ u.1 = I ∧ ∀ k, k ≠ 0 → u.2 k = F k) (fun (u : (Nat → Int32) × (Nat → Nat → Int32)) (t : State) => va_P (dC, dI) vwCl (gW h0 R C u.1 u.2) t.heap ∧ va_K (dC, dI) vwCl (gT C) t ∧ va_D (va_A (gW h0 R C I F) sz) (gW h0 R C u.1 u.2)) (va_A (gW h0 R C I F) sz)) 0 0 (va_A (gW h0 R C I F) sz) := by
  refine Met.ofW (cc := cX4_refuse) (maxL := 2) (ret := (some .int)) (by decide) rfl ?_
  intro p e s m args below meth c s₁ B hml hv
  obtain ⟨rfl, hsz, hP, hK, hD0⟩ := hv
  have hx := B.exec
  have hb := B.bytes
  have hr := B.returns
  have hts := atoms_spec (ws := wsX4_refuse) B.pre
  have hown : s.vm.findClass RX4 = some m.cls := findClass_of_methodNamed B.named
  have hlocks := B.notSynchronized
  subst hsz
  have hD := hD0.self (sz := s.heap.size)
  generalize hAe : va_A (gW h0 R C I F) s.heap.size = A at hD ⊢
  have hA : ∀ q : Nat, s.heap.size ≤ q → A q := fun q h => by rw [← hAe]; exact Or.inr h
  have hS : va_S A s.heap s.heap [] := va_S.rf
  have hP : va_P (dC, dI) vwCl (gW h0 R C I F) s.heap := hP
  have hl := lv_entry ([.ref h0, .int (-3)]) (n := 2) (Nat.le_of_ble_eq_true rfl)
  rw [lg_entry_eq]
  generalize (lg_sl ([.ref h0, .int (-3)]) ++ List.replicate (2 - (lg_sl ([.ref h0, .int (-3)])).length) Slot.unset).toArray = ls at hl ⊢
  have hl : lv_has ls 2 [(0, .ref h0), (1, .int (-3))] := hl
  refine lv_aload_n hx hb dX4_refuse_0 rfl (lv_at hl 0 rfl) ?_
  refine va_get (D := (dC, dI)) (ci := 5) (v := .ref (R 0)) (C := RX4) (T := TX4) (N := 43) hx hb hts (fun _ h => List.mem_cons_of_mem _ (List.mem_append_right _ h)) hown hK hP 0 rfl rfl 0 (by decide) (hts (.fieldLink RX4 7 "FrontDoorModel" "refusals" "[I") (by decide +kernel)) (fun _ h9 => h9) rfl dX4_refuse_1 ?_
  refine lv_iload_n hx hb dX4_refuse_4 rfl (lv_at hl 1 rfl) ?_
  refine lv_ineg hx hb dX4_refuse_5 ?_
  refine lv_topi (fun x_1 ex_1 => ?_)
  obtain rfl : x_1 = 3 := ex_1.trans (by decide)
  refine lv_dup2_11 hx hb dX4_refuse_6 rfl rfl ?_
  refine va_iald hx hb hK hP 1 0 rfl rfl (by unfold vp_in; decide) dX4_refuse_7 ?_
  refine lv_topi (fun x_2 ex_2 => ?_)
  replace ex_2 : x_2 = (F 0) (Int32.toNatClampNeg 3) := ex_2
  refine lv_iconst (v := 1) hx hb dX4_refuse_8 (by decide) ?_
  refine lv_iadd hx hb dX4_refuse_9 ?_
  refine lv_topi (fun x_3 ex_3 => ?_)
  refine va_iast hx hb hK hP hD hS 1 0 rfl rfl (by unfold vp_in; decide) dX4_refuse_10 (fun H locs hP hD hS => ?_)
  have hP : va_P (dC, dI) vwCl (gW h0 R C I (va_up F 0 (upd (F 0) (Int32.toNatClampNeg 3) x_3))) H := hP
  have hD : va_D A (gW h0 R C I (va_up F 0 (upd (F 0) (Int32.toNatClampNeg 3) x_3))) := hD
  refine lv_iload_n hx hb dX4_refuse_11 rfl (lv_at hl 1 rfl) ?_
  exact W.iret (v := (-3)) hx hb hr (fun t ht hW => ⟨⟨(-3), (I, (va_up F 0 (upd (F 0) (Int32.toNatClampNeg 3) x_3))), rfl, ⟨rfl, rfl, fun k hk => va_up_ne _ _ hk⟩, by rw [ht]; exact hP, va_K.moved hW.alike hK, hD⟩, hS.F ht⟩) hS.2.2 dX4_refuse_12

set_option maxHeartbeats 40000000 in
set_option maxRecDepth 100000 in
theorem m_X4_refuse4 (l : Launch) (dC : Nat → ClassId) (dI : Nat → Nat → Nat) (h0 : Nat) (R : Nat → Nat) (C : Nat → ClassId) (I : Nat → Int32) (F : Nat → Nat → Int32) (sz : Nat) : Met l yX4_refuse wsX4_refuse ({ frames := 0, cells := 0, slots := 0, locals := 0 }) (va_Pc [.ref h0, .int (-4)] (pzPre (dC, dI) vwCl (gW h0 R C I F) (gT C) sz)) (va_Qi (fun (r : Int32) (u : (Nat → Int32) × (Nat → Nat → Int32)) => r = (-4) ∧ u.1 = I ∧ ∀ k, k ≠ 0 → u.2 k = F k) (fun (u : (Nat → Int32) × (Nat → Nat → Int32)) (t : State) => va_P (dC, dI) vwCl (gW h0 R C u.1 u.2) t.heap ∧ va_K (dC, dI) vwCl (gT C) t ∧ va_D (va_A (gW h0 R C I F) sz) (gW h0 R C u.1 u.2)) (va_A (gW h0 R C I F) sz)) 0 0 (va_A (gW h0 R C I F) sz) := by
  refine Met.ofW (cc := cX4_refuse) (maxL := 2) (ret := (some .int)) (by decide) rfl ?_
  intro p e s m args below meth c s₁ B hml hv
  obtain ⟨rfl, hsz, hP, hK, hD0⟩ := hv
  have hx := B.exec
  have hb := B.bytes
  have hr := B.returns
  have hts := atoms_spec (ws := wsX4_refuse) B.pre
  have hown : s.vm.findClass RX4 = some m.cls := findClass_of_methodNamed B.named
  have hlocks := B.notSynchronized
  subst hsz
  have hD := hD0.self (sz := s.heap.size)
  generalize hAe : va_A (gW h0 R C I F) s.heap.size = A at hD ⊢
  have hA : ∀ q : Nat, s.heap.size ≤ q → A q := fun q h => by rw [← hAe]; exact Or.inr h
  have hS : va_S A s.heap s.heap [] := va_S.rf
  have hP : va_P (dC, dI) vwCl (gW h0 R C I F) s.heap := hP
  have hl := lv_entry ([.ref h0, .int (-4)]) (n := 2) (Nat.le_of_ble_eq_true rfl)
  rw [lg_entry_eq]
  generalize (lg_sl ([.ref h0, .int (-4)]) ++ List.replicate (2 - (lg_sl ([.ref h0, .int (-4)])).length) Slot.unset).toArray = ls at hl ⊢
  have hl : lv_has ls 2 [(0, .ref h0), (1, .int (-4))] := hl
  refine lv_aload_n hx hb dX4_refuse_0 rfl (lv_at hl 0 rfl) ?_
  refine va_get (D := (dC, dI)) (ci := 5) (v := .ref (R 0)) (C := RX4) (T := TX4) (N := 43) hx hb hts (fun _ h => List.mem_cons_of_mem _ (List.mem_append_right _ h)) hown hK hP 0 rfl rfl 0 (by decide) (hts (.fieldLink RX4 7 "FrontDoorModel" "refusals" "[I") (by decide +kernel)) (fun _ h9 => h9) rfl dX4_refuse_1 ?_
  refine lv_iload_n hx hb dX4_refuse_4 rfl (lv_at hl 1 rfl) ?_
  refine lv_ineg hx hb dX4_refuse_5 ?_
  refine lv_topi (fun x_1 ex_1 => ?_)
  obtain rfl : x_1 = 4 := ex_1.trans (by decide)
  refine lv_dup2_11 hx hb dX4_refuse_6 rfl rfl ?_
  refine va_iald hx hb hK hP 1 0 rfl rfl (by unfold vp_in; decide) dX4_refuse_7 ?_
  refine lv_topi (fun x_2 ex_2 => ?_)
  replace ex_2 : x_2 = (F 0) (Int32.toNatClampNeg 4) := ex_2
  refine lv_iconst (v := 1) hx hb dX4_refuse_8 (by decide) ?_
  refine lv_iadd hx hb dX4_refuse_9 ?_
  refine lv_topi (fun x_3 ex_3 => ?_)
  refine va_iast hx hb hK hP hD hS 1 0 rfl rfl (by unfold vp_in; decide) dX4_refuse_10 (fun H locs hP hD hS => ?_)
  have hP : va_P (dC, dI) vwCl (gW h0 R C I (va_up F 0 (upd (F 0) (Int32.toNatClampNeg 4) x_3))) H := hP
  have hD : va_D A (gW h0 R C I (va_up F 0 (upd (F 0) (Int32.toNatClampNeg 4) x_3))) := hD
  refine lv_iload_n hx hb dX4_refuse_11 rfl (lv_at hl 1 rfl) ?_
  exact W.iret (v := (-4)) hx hb hr (fun t ht hW => ⟨⟨(-4), (I, (va_up F 0 (upd (F 0) (Int32.toNatClampNeg 4) x_3))), rfl, ⟨rfl, rfl, fun k hk => va_up_ne _ _ hk⟩, by rw [ht]; exact hP, va_K.moved hW.alike hK, hD⟩, hS.F ht⟩) hS.2.2 dX4_refuse_12

set_option maxHeartbeats 40000000 in
set_option maxRecDepth 100000 in
theorem m_X4_refuse6 (l : Launch) (dC : Nat → ClassId) (dI : Nat → Nat → Nat) (h0 : Nat) (R : Nat → Nat) (C : Nat → ClassId) (I : Nat → Int32) (F : Nat → Nat → Int32) (sz : Nat) : Met l yX4_refuse wsX4_refuse ({ frames := 0, cells := 0, slots := 0, locals := 0 }) (va_Pc [.ref h0, .int (-6)] (pzPre (dC, dI) vwCl (gW h0 R C I F) (gT C) sz)) (va_Qi (fun (r : Int32) (u : (Nat → Int32) × (Nat → Nat → Int32)) => r = (-6) ∧ u.1 = I ∧ ∀ k, k ≠ 0 → u.2 k = F k) (fun (u : (Nat → Int32) × (Nat → Nat → Int32)) (t : State) => va_P (dC, dI) vwCl (gW h0 R C u.1 u.2) t.heap ∧ va_K (dC, dI) vwCl (gT C) t ∧ va_D (va_A (gW h0 R C I F) sz) (gW h0 R C u.1 u.2)) (va_A (gW h0 R C I F) sz)) 0 0 (va_A (gW h0 R C I F) sz) := by
  refine Met.ofW (cc := cX4_refuse) (maxL := 2) (ret := (some .int)) (by decide) rfl ?_
  intro p e s m args below meth c s₁ B hml hv
  obtain ⟨rfl, hsz, hP, hK, hD0⟩ := hv
  have hx := B.exec
  have hb := B.bytes
  have hr := B.returns
  have hts := atoms_spec (ws := wsX4_refuse) B.pre
  have hown : s.vm.findClass RX4 = some m.cls := findClass_of_methodNamed B.named
  have hlocks := B.notSynchronized
  subst hsz
  have hD := hD0.self (sz := s.heap.size)
  generalize hAe : va_A (gW h0 R C I F) s.heap.size = A at hD ⊢
  have hA : ∀ q : Nat, s.heap.size ≤ q → A q := fun q h => by rw [← hAe]; exact Or.inr h
  have hS : va_S A s.heap s.heap [] := va_S.rf
  have hP : va_P (dC, dI) vwCl (gW h0 R C I F) s.heap := hP
  have hl := lv_entry ([.ref h0, .int (-6)]) (n := 2) (Nat.le_of_ble_eq_true rfl)
  rw [lg_entry_eq]
  generalize (lg_sl ([.ref h0, .int (-6)]) ++ List.replicate (2 - (lg_sl ([.ref h0, .int (-6)])).length) Slot.unset).toArray = ls at hl ⊢
  have hl : lv_has ls 2 [(0, .ref h0), (1, .int (-6))] := hl
  refine lv_aload_n hx hb dX4_refuse_0 rfl (lv_at hl 0 rfl) ?_
  refine va_get (D := (dC, dI)) (ci := 5) (v := .ref (R 0)) (C := RX4) (T := TX4) (N := 43) hx hb hts (fun _ h => List.mem_cons_of_mem _ (List.mem_append_right _ h)) hown hK hP 0 rfl rfl 0 (by decide) (hts (.fieldLink RX4 7 "FrontDoorModel" "refusals" "[I") (by decide +kernel)) (fun _ h9 => h9) rfl dX4_refuse_1 ?_
  refine lv_iload_n hx hb dX4_refuse_4 rfl (lv_at hl 1 rfl) ?_
  refine lv_ineg hx hb dX4_refuse_5 ?_
  refine lv_topi (fun x_1 ex_1 => ?_)
  obtain rfl : x_1 = 6 := ex_1.trans (by decide)
  refine lv_dup2_11 hx hb dX4_refuse_6 rfl rfl ?_
  refine va_iald hx hb hK hP 1 0 rfl rfl (by unfold vp_in; decide) dX4_refuse_7 ?_
  refine lv_topi (fun x_2 ex_2 => ?_)
  replace ex_2 : x_2 = (F 0) (Int32.toNatClampNeg 6) := ex_2
  refine lv_iconst (v := 1) hx hb dX4_refuse_8 (by decide) ?_
  refine lv_iadd hx hb dX4_refuse_9 ?_
  refine lv_topi (fun x_3 ex_3 => ?_)
  refine va_iast hx hb hK hP hD hS 1 0 rfl rfl (by unfold vp_in; decide) dX4_refuse_10 (fun H locs hP hD hS => ?_)
  have hP : va_P (dC, dI) vwCl (gW h0 R C I (va_up F 0 (upd (F 0) (Int32.toNatClampNeg 6) x_3))) H := hP
  have hD : va_D A (gW h0 R C I (va_up F 0 (upd (F 0) (Int32.toNatClampNeg 6) x_3))) := hD
  refine lv_iload_n hx hb dX4_refuse_11 rfl (lv_at hl 1 rfl) ?_
  exact W.iret (v := (-6)) hx hb hr (fun t ht hW => ⟨⟨(-6), (I, (va_up F 0 (upd (F 0) (Int32.toNatClampNeg 6) x_3))), rfl, ⟨rfl, rfl, fun k hk => va_up_ne _ _ hk⟩, by rw [ht]; exact hP, va_K.moved hW.alike hK, hD⟩, hS.F ht⟩) hS.2.2 dX4_refuse_12

set_option maxHeartbeats 40000000 in
set_option maxRecDepth 100000 in
theorem m_X4_rule (l : Launch) (dC : Nat → ClassId) (dI : Nat → Nat → Nat) (h0 : Nat) (R : Nat → Nat) (C : Nat → ClassId) (I : Nat → Int32) (F : Nat → Nat → Int32) (a1 : Int32) (sz : Nat) : Met l yX4_rule wsX4_rule ({ frames := 1, cells := 0, slots := 0, locals := 21 }) (va_Pc [.ref h0, .int a1] (pzPre (dC, dI) vwCl (gW h0 R C I F) (gT C) sz)) (va_Qi (fun (r : Int32) (u : (Nat → Int32) × (Nat → Nat → Int32)) => (if a1.toInt < 0 ∨ 3 < a1.toInt then r = -1 ∧ u.1 = I else r = I 4 ∧ u.1 = va_up I 4 a1) ∧ ∀ k, k ≠ 0 → u.2 k = F k) (fun (u : (Nat → Int32) × (Nat → Nat → Int32)) (t : State) => va_P (dC, dI) vwCl (gW h0 R C u.1 u.2) t.heap ∧ va_K (dC, dI) vwCl (gT C) t ∧ va_D (va_A (gW h0 R C I F) sz) (gW h0 R C u.1 u.2)) (va_A (gW h0 R C I F) sz)) 0 0 (va_A (gW h0 R C I F) sz) := by
  refine Met.ofW (cc := cX4_rule) (maxL := 3) (ret := (some .int)) (by decide) rfl ?_
  intro p e s m args below meth c s₁ B hml hv
  obtain ⟨rfl, hsz, hP, hK, hD0⟩ := hv
  have hx := B.exec
  have hb := B.bytes
  have hr := B.returns
  have hts := atoms_spec (ws := wsX4_rule) B.pre
  have hown : s.vm.findClass RX4 = some m.cls := findClass_of_methodNamed B.named
  have hlocks := B.notSynchronized
  subst hsz
  have hD := hD0.self (sz := s.heap.size)
  generalize hAe : va_A (gW h0 R C I F) s.heap.size = A at hD ⊢
  have hA : ∀ q : Nat, s.heap.size ≤ q → A q := fun q h => by rw [← hAe]; exact Or.inr h
  have hS : va_S A s.heap s.heap [] := va_S.rf
  have hP : va_P (dC, dI) vwCl (gW h0 R C I F) s.heap := hP
  have hl := lv_entry ([.ref h0, .int a1]) (n := 3) (Nat.le_of_ble_eq_true rfl)
  rw [lg_entry_eq]
  generalize (lg_sl ([.ref h0, .int a1]) ++ List.replicate (3 - (lg_sl ([.ref h0, .int a1])).length) Slot.unset).toArray = ls at hl ⊢
  have hl : lv_has ls 3 [(0, .ref h0), (1, .int a1)] := hl
  refine lv_iload_n hx hb dX4_rule_0 rfl (lv_at hl 1 rfl) ?_
  refine lv_iconst (v := 4) hx hb dX4_rule_1 (by decide) ?_
  have hPc := hP.sub (ws' := []) [] rfl
  have hDc := hD.sub (ws' := []) [] (by decide) rfl
  have hKc := hK.sub (tys' := []) [] rfl
  have hFc := pz_f hA hS
  refine va_calli (va_runS (As := [.int a1, .int 4]) (rest := []) ⟨hx, hb, hml, hown, hts⟩ (m_X4_isIn l dC dI a1 4 s.heap.size) (va_cwS 2 hts gX4_rule_X4_isIn rfl rfl rfl (by decide +kernel) ⟨Nat.le_of_ble_eq_true rfl, Nat.le_of_ble_eq_true rfl⟩) ⟨pz_blind, fun U hU hW => ⟨rfl, pz_at hPc hKc hDc hU hW⟩⟩ rfl rfl hl.1 rfl (lv_room (Nat.le_of_ble_eq_true rfl)) dX4_rule_2 ⟨Nat.le_of_ble_eq_true rfl, Nat.le_of_ble_eq_true rfl⟩) hS (fun q _ h => hFc q h) hFc (fun r_1 u t H locs ht hvm hw hB hz1 hk1 hS => ?_)
  have hP := pz_keep hP hk1
  rcases hw with ⟨f_1_0, f_1_1, hr9⟩ | ⟨f_1_0, hr9⟩
  · skip
    have hr9 : r_1 = 1 := hr9
    subst hr9
    have f_1_0 : 0 ≤ a1.toInt := pz_id f_1_0
    have f_1_1 : a1.toInt < 4 := f_1_1
    refine lv_if_ne (tgt := 14) hx hb dX4_rule_5 (by decide) (fun c_2 => ?_) (fun c_2 => absurd c_2 (by decide))
    refine lv_aload_n hx hb dX4_rule_14 rfl (lv_at hl 0 rfl) ?_
    refine va_get (D := (dC, dI)) (ci := 5) (v := .int (I 4)) (C := RX4) (T := TX4) (N := 43) hx hb hts (fun _ h => List.mem_cons_of_mem _ (List.mem_append_right _ h)) hown hK hP 0 rfl rfl 4 (by decide) (hts (.fieldLink RX4 136 "FrontDoorModel" "rule" "I") (by decide +kernel)) (fun _ h9 => h9) rfl dX4_rule_15 ?_
    refine lv_istore_n (lv' := [(2, .int (I 4)), (0, .ref h0), (1, .int a1)]) hx hb dX4_rule_18 rfl hl (by decide) rfl (fun ls hl => ?_)
    refine lv_aload_n hx hb dX4_rule_19 rfl (lv_at hl 1 rfl) ?_
    refine lv_iload_n hx hb dX4_rule_20 rfl (lv_at hl 2 rfl) ?_
    refine va_put (D := (dC, dI)) (ci := 5) (v := .int a1) (ty := .int) (C := RX4) (T := TX4) (N := 43) hx hb hts (fun _ h => List.mem_cons_of_mem _ (List.mem_append_right _ h)) tyX4 tyX4_ok nmX4 hown hK hP hD hS 0 rfl rfl 4 (by decide) (hts (.fieldLink RX4 136 "FrontDoorModel" "rule" "I") (by decide +kernel)) (fun _ h9 => h9) rfl (by decide +kernel) rfl rfl (Nat.le_of_ble_eq_true rfl) dX4_rule_21 (fun H locs hP hD hS => ?_)
    have hP : va_P (dC, dI) vwCl (gW h0 R C (va_up I 4 a1) F) H := hP
    have hD : va_D A (gW h0 R C (va_up I 4 a1) F) := hD
    refine lv_iload_n hx hb dX4_rule_24 rfl (lv_at hl 0 rfl) ?_
    exact W.iret (v := (I 4)) hx hb hr (fun t ht hW => ⟨⟨(I 4), ((va_up I 4 a1), F), rfl, (by first | (refine ⟨?_, fun k hk => rfl⟩; (repeat' split) <;> first | exact ⟨rfl, rfl⟩ | (exfalso; omega)) | (obtain ⟨-, w1, w2⟩ := hw; subst w1; refine ⟨?_, w2⟩; (repeat' split) <;> first | exact ⟨rfl, rfl⟩ | (exfalso; omega))), by rw [ht]; exact hP, va_K.moved hW.alike hK, hD⟩, hS.F ht⟩) hS.2.2 dX4_rule_25
  · skip
    have hr9 : r_1 = 0 := hr9
    subst hr9
    have f_1_0 : (a1.toInt < 0 ∨ 4 ≤ a1.toInt) := f_1_0
    refine lv_if_ne (tgt := 14) hx hb dX4_rule_5 (by decide) (fun c_3 => absurd c_3 (by decide)) (fun c_3 => ?_)
    refine lv_aload_n hx hb dX4_rule_8 rfl (lv_at hl 0 rfl) ?_
    refine lv_iconst (v := (-1)) hx hb dX4_rule_9 (by decide) ?_
    have hPc := hP.sub (ws' := (gW h0 R C I F)) [0, 1, 2, 3, 4, 5, 6, 7, 8, 9, 10, 11, 12, 13, 14, 15, 16, 17, 18, 19, 20, 21, 22, 23, 24, 25, 26, 27, 28, 29, 30, 31, 32] rfl
    have hDc := hD.sub (ws' := (gW h0 R C I F)) [0, 1, 2, 3, 4, 5, 6, 7, 8, 9, 10, 11, 12, 13, 14, 15, 16, 17, 18, 19, 20, 21, 22, 23, 24, 25, 26, 27, 28, 29, 30, 31, 32] (by decide) rfl
    have hKc := hK.sub (tys' := (gT C)) [0, 1, 2, 3, 4, 5, 6, 7, 8, 9, 10, 11, 12, 13, 14, 15, 16, 17, 18, 19, 20, 21, 22, 23, 24, 25, 26, 27, 28, 29, 30, 31] rfl
    have hFc := va_free (wc := (gW h0 R C I F)) hD hS hA [0, 1, 2, 3, 4, 5, 6, 7, 8, 9, 10, 11, 12, 13, 14, 15, 16, 17, 18, 19, 20, 21, 22, 23, 24, 25, 26, 27, 28, 29, 30, 31, 32] rfl
    refine va_calli (va_runV (As := [.int (-1)]) (rest := []) ⟨hx, hb, hml, hown, hts⟩ (m_X4_refuse1 l dC dI h0 R C I F H.size) (cwV 1 hts gX4_rule_X4_refuse rfl rfl rfl (by decide +kernel) ⟨Nat.le_of_ble_eq_true rfl, Nat.le_of_ble_eq_true rfl⟩) ⟨pz_blind, va_recv hKc hPc (ci := 5) (q0 := 0) rfl rfl, fun U hU hW => ⟨rfl, pz_at hPc hKc hDc hU hW⟩⟩ rfl rfl hl.1 rfl (lv_room (Nat.le_of_ble_eq_true rfl)) dX4_rule_10 ⟨Nat.le_of_ble_eq_true rfl, Nat.le_of_ble_eq_true rfl⟩) hS (fun q _ h => hFc q h) hFc (fun r_4 u t H locs ht hvm hw hB hz1 hk1 hS => ?_)
    obtain ⟨I_4, F_4⟩ := u
    obtain ⟨hP1, hK1, hD1⟩ := hB
    rw [ht] at hP1
    try dsimp only at hw
    have hP := hP1
    have hD := hD1.weaken (fun _ _ _ h9 => hFc _ h9)
    have hP : va_P (dC, dI) vwCl (gW h0 R C I_4 F_4) H := hP
    have hD : va_D A (gW h0 R C I_4 F_4) := hD
    have hr8 : r_4 = (-1) := hw.1
    subst hr8
    exact W.iret (v := (-1)) hx hb hr (fun t ht hW => ⟨⟨(-1), (I_4, F_4), rfl, (by first | (refine ⟨?_, fun k hk => rfl⟩; (repeat' split) <;> first | exact ⟨rfl, rfl⟩ | (exfalso; omega)) | (obtain ⟨-, w1, w2⟩ := hw; subst w1; refine ⟨?_, w2⟩; (repeat' split) <;> first | exact ⟨rfl, rfl⟩ | (exfalso; omega))), by rw [ht]; exact hP, va_K.moved hW.alike hK, hD⟩, hS.F ht⟩) hS.2.2 dX4_rule_13

set_option maxHeartbeats 40000000 in
set_option maxRecDepth 100000 in
theorem m_X4_limit (l : Launch) (dC : Nat → ClassId) (dI : Nat → Nat → Nat) (h0 : Nat) (R : Nat → Nat) (C : Nat → ClassId) (I : Nat → Int32) (F : Nat → Nat → Int32) (a1 : Int32) (sz : Nat) : Met l yX4_limit wsX4_limit ({ frames := 1, cells := 0, slots := 0, locals := 21 }) (va_Pc [.ref h0, .int a1] (pzPre (dC, dI) vwCl (gW h0 R C I F) (gT C) sz)) (va_Qi (fun (r : Int32) (u : (Nat → Int32) × (Nat → Nat → Int32)) => (if a1.toInt < 1 then r = -4 ∧ u.1 = I else if 10 < a1.toInt then r = -6 ∧ u.1 = I else r = I 5 ∧ u.1 = va_up I 5 a1) ∧ ∀ k, k ≠ 0 → u.2 k = F k) (fun (u : (Nat → Int32) × (Nat → Nat → Int32)) (t : State) => va_P (dC, dI) vwCl (gW h0 R C u.1 u.2) t.heap ∧ va_K (dC, dI) vwCl (gT C) t ∧ va_D (va_A (gW h0 R C I F) sz) (gW h0 R C u.1 u.2)) (va_A (gW h0 R C I F) sz)) 0 0 (va_A (gW h0 R C I F) sz) := by
  refine Met.ofW (cc := cX4_limit) (maxL := 3) (ret := (some .int)) (by decide) rfl ?_
  intro p e s m args below meth c s₁ B hml hv
  obtain ⟨rfl, hsz, hP, hK, hD0⟩ := hv
  have hx := B.exec
  have hb := B.bytes
  have hr := B.returns
  have hts := atoms_spec (ws := wsX4_limit) B.pre
  have hown : s.vm.findClass RX4 = some m.cls := findClass_of_methodNamed B.named
  have hlocks := B.notSynchronized
  subst hsz
  have hD := hD0.self (sz := s.heap.size)
  generalize hAe : va_A (gW h0 R C I F) s.heap.size = A at hD ⊢
  have hA : ∀ q : Nat, s.heap.size ≤ q → A q := fun q h => by rw [← hAe]; exact Or.inr h
  have hS : va_S A s.heap s.heap [] := va_S.rf
  have hP : va_P (dC, dI) vwCl (gW h0 R C I F) s.heap := hP
  have hl := lv_entry ([.ref h0, .int a1]) (n := 3) (Nat.le_of_ble_eq_true rfl)
  rw [lg_entry_eq]
  generalize (lg_sl ([.ref h0, .int a1]) ++ List.replicate (3 - (lg_sl ([.ref h0, .int a1])).length) Slot.unset).toArray = ls at hl ⊢
  have hl : lv_has ls 3 [(0, .ref h0), (1, .int a1)] := hl
  refine lv_iload_n hx hb dX4_limit_0 rfl (lv_at hl 1 rfl) ?_
  refine lv_iconst (v := 1) hx hb dX4_limit_1 (by decide) ?_
  refine lv_icmp_ge (tgt := 12) hx hb dX4_limit_2 (by decide) (fun c_1 => ?_) (fun c_1 => ?_)
  · skip
    have i_1 : 1 ≤ a1.toInt := by have h9 := pz_ge c_1; exact h9
    refine lv_iload_n hx hb dX4_limit_12 rfl (lv_at hl 1 rfl) ?_
    refine lv_bipush (v := 10) hx hb dX4_limit_13 (by decide) ?_
    refine lv_icmp_le (tgt := 25) hx hb dX4_limit_15 (by decide) (fun c_2 => ?_) (fun c_2 => ?_)
    · skip
      have i_2 : a1.toInt ≤ 10 := by have h9 := pz_le c_2; exact h9
      refine lv_aload_n hx hb dX4_limit_25 rfl (lv_at hl 0 rfl) ?_
      refine va_get (D := (dC, dI)) (ci := 5) (v := .int (I 5)) (C := RX4) (T := TX4) (N := 43) hx hb hts (fun _ h => List.mem_cons_of_mem _ (List.mem_append_right _ h)) hown hK hP 0 rfl rfl 5 (by decide) (hts (.fieldLink RX4 13 "FrontDoorModel" "limit" "I") (by decide +kernel)) (fun _ h9 => h9) rfl dX4_limit_26 ?_
      refine lv_istore_n (lv' := [(2, .int (I 5)), (0, .ref h0), (1, .int a1)]) hx hb dX4_limit_29 rfl hl (by decide) rfl (fun ls hl => ?_)
      refine lv_aload_n hx hb dX4_limit_30 rfl (lv_at hl 1 rfl) ?_
      refine lv_iload_n hx hb dX4_limit_31 rfl (lv_at hl 2 rfl) ?_
      refine va_put (D := (dC, dI)) (ci := 5) (v := .int a1) (ty := .int) (C := RX4) (T := TX4) (N := 43) hx hb hts (fun _ h => List.mem_cons_of_mem _ (List.mem_append_right _ h)) tyX4 tyX4_ok nmX4 hown hK hP hD hS 0 rfl rfl 5 (by decide) (hts (.fieldLink RX4 13 "FrontDoorModel" "limit" "I") (by decide +kernel)) (fun _ h9 => h9) rfl (by decide +kernel) rfl rfl (Nat.le_of_ble_eq_true rfl) dX4_limit_32 (fun H locs hP hD hS => ?_)
      have hP : va_P (dC, dI) vwCl (gW h0 R C (va_up I 5 a1) F) H := hP
      have hD : va_D A (gW h0 R C (va_up I 5 a1) F) := hD
      refine lv_iload_n hx hb dX4_limit_35 rfl (lv_at hl 0 rfl) ?_
      exact W.iret (v := (I 5)) hx hb hr (fun t ht hW => ⟨⟨(I 5), ((va_up I 5 a1), F), rfl, (by first | (refine ⟨?_, fun k hk => rfl⟩; (repeat' split) <;> first | exact ⟨rfl, rfl⟩ | (exfalso; omega)) | (obtain ⟨-, w1, w2⟩ := hw; subst w1; refine ⟨?_, w2⟩; (repeat' split) <;> first | exact ⟨rfl, rfl⟩ | (exfalso; omega))), by rw [ht]; exact hP, va_K.moved hW.alike hK, hD⟩, hS.F ht⟩) hS.2.2 dX4_limit_36
    · skip
      have i_2 : 10 < a1.toInt := by have h9 := pz_nle c_2; exact h9
      refine lv_aload_n hx hb dX4_limit_18 rfl (lv_at hl 0 rfl) ?_
      refine lv_bipush (v := (-6)) hx hb dX4_limit_19 (by decide) ?_
      have hPc := hP.sub (ws' := (gW h0 R C I F)) [0, 1, 2, 3, 4, 5, 6, 7, 8, 9, 10, 11, 12, 13, 14, 15, 16, 17, 18, 19, 20, 21, 22, 23, 24, 25, 26, 27, 28, 29, 30, 31, 32] rfl
      have hDc := hD.sub (ws' := (gW h0 R C I F)) [0, 1, 2, 3, 4, 5, 6, 7, 8, 9, 10, 11, 12, 13, 14, 15, 16, 17, 18, 19, 20, 21, 22, 23, 24, 25, 26, 27, 28, 29, 30, 31, 32] (by decide) rfl
      have hKc := hK.sub (tys' := (gT C)) [0, 1, 2, 3, 4, 5, 6, 7, 8, 9, 10, 11, 12, 13, 14, 15, 16, 17, 18, 19, 20, 21, 22, 23, 24, 25, 26, 27, 28, 29, 30, 31] rfl
      have hFc := va_free (wc := (gW h0 R C I F)) hD hS hA [0, 1, 2, 3, 4, 5, 6, 7, 8, 9, 10, 11, 12, 13, 14, 15, 16, 17, 18, 19, 20, 21, 22, 23, 24, 25, 26, 27, 28, 29, 30, 31, 32] rfl
      refine va_calli (va_runV (As := [.int (-6)]) (rest := []) ⟨hx, hb, hml, hown, hts⟩ (m_X4_refuse6 l dC dI h0 R C I F s.heap.size) (cwV 1 hts gX4_limit_X4_refuse rfl rfl rfl (by decide +kernel) ⟨Nat.le_of_ble_eq_true rfl, Nat.le_of_ble_eq_true rfl⟩) ⟨pz_blind, va_recv hKc hPc (ci := 5) (q0 := 0) rfl rfl, fun U hU hW => ⟨rfl, pz_at hPc hKc hDc hU hW⟩⟩ rfl rfl hl.1 rfl (lv_room (Nat.le_of_ble_eq_true rfl)) dX4_limit_21 ⟨Nat.le_of_ble_eq_true rfl, Nat.le_of_ble_eq_true rfl⟩) hS (fun q _ h => hFc q h) hFc (fun r_3 u t H locs ht hvm hw hB hz1 hk1 hS => ?_)
      obtain ⟨I_3, F_3⟩ := u
      obtain ⟨hP1, hK1, hD1⟩ := hB
      rw [ht] at hP1
      try dsimp only at hw
      have hP := hP1
      have hD := hD1.weaken (fun _ _ _ h9 => hFc _ h9)
      have hP : va_P (dC, dI) vwCl (gW h0 R C I_3 F_3) H := hP
      have hD : va_D A (gW h0 R C I_3 F_3) := hD
      have hr8 : r_3 = (-6) := hw.1
      subst hr8
      exact W.iret (v := (-6)) hx hb hr (fun t ht hW => ⟨⟨(-6), (I_3, F_3), rfl, (by first | (refine ⟨?_, fun k hk => rfl⟩; (repeat' split) <;> first | exact ⟨rfl, rfl⟩ | (exfalso; omega)) | (obtain ⟨-, w1, w2⟩ := hw; subst w1; refine ⟨?_, w2⟩; (repeat' split) <;> first | exact ⟨rfl, rfl⟩ | (exfalso; omega))), by rw [ht]; exact hP, va_K.moved hW.alike hK, hD⟩, hS.F ht⟩) hS.2.2 dX4_limit_24
  · skip
    have i_1 : a1.toInt < 1 := by have h9 := pz_nge c_1; exact h9
    refine lv_aload_n hx hb dX4_limit_5 rfl (lv_at hl 0 rfl) ?_
    refine lv_bipush (v := (-4)) hx hb dX4_limit_6 (by decide) ?_
    have hPc := hP.sub (ws' := (gW h0 R C I F)) [0, 1, 2, 3, 4, 5, 6, 7, 8, 9, 10, 11, 12, 13, 14, 15, 16, 17, 18, 19, 20, 21, 22, 23, 24, 25, 26, 27, 28, 29, 30, 31, 32] rfl
    have hDc := hD.sub (ws' := (gW h0 R C I F)) [0, 1, 2, 3, 4, 5, 6, 7, 8, 9, 10, 11, 12, 13, 14, 15, 16, 17, 18, 19, 20, 21, 22, 23, 24, 25, 26, 27, 28, 29, 30, 31, 32] (by decide) rfl
    have hKc := hK.sub (tys' := (gT C)) [0, 1, 2, 3, 4, 5, 6, 7, 8, 9, 10, 11, 12, 13, 14, 15, 16, 17, 18, 19, 20, 21, 22, 23, 24, 25, 26, 27, 28, 29, 30, 31] rfl
    have hFc := va_free (wc := (gW h0 R C I F)) hD hS hA [0, 1, 2, 3, 4, 5, 6, 7, 8, 9, 10, 11, 12, 13, 14, 15, 16, 17, 18, 19, 20, 21, 22, 23, 24, 25, 26, 27, 28, 29, 30, 31, 32] rfl
    refine va_calli (va_runV (As := [.int (-4)]) (rest := []) ⟨hx, hb, hml, hown, hts⟩ (m_X4_refuse4 l dC dI h0 R C I F s.heap.size) (cwV 1 hts gX4_limit_X4_refuse rfl rfl rfl (by decide +kernel) ⟨Nat.le_of_ble_eq_true rfl, Nat.le_of_ble_eq_true rfl⟩) ⟨pz_blind, va_recv hKc hPc (ci := 5) (q0 := 0) rfl rfl, fun U hU hW => ⟨rfl, pz_at hPc hKc hDc hU hW⟩⟩ rfl rfl hl.1 rfl (lv_room (Nat.le_of_ble_eq_true rfl)) dX4_limit_8 ⟨Nat.le_of_ble_eq_true rfl, Nat.le_of_ble_eq_true rfl⟩) hS (fun q _ h => hFc q h) hFc (fun r_4 u t H locs ht hvm hw hB hz1 hk1 hS => ?_)
    obtain ⟨I_4, F_4⟩ := u
    obtain ⟨hP1, hK1, hD1⟩ := hB
    rw [ht] at hP1
    try dsimp only at hw
    have hP := hP1
    have hD := hD1.weaken (fun _ _ _ h9 => hFc _ h9)
    have hP : va_P (dC, dI) vwCl (gW h0 R C I_4 F_4) H := hP
    have hD : va_D A (gW h0 R C I_4 F_4) := hD
    have hr8 : r_4 = (-4) := hw.1
    subst hr8
    exact W.iret (v := (-4)) hx hb hr (fun t ht hW => ⟨⟨(-4), (I_4, F_4), rfl, (by first | (refine ⟨?_, fun k hk => rfl⟩; (repeat' split) <;> first | exact ⟨rfl, rfl⟩ | (exfalso; omega)) | (obtain ⟨-, w1, w2⟩ := hw; subst w1; refine ⟨?_, w2⟩; (repeat' split) <;> first | exact ⟨rfl, rfl⟩ | (exfalso; omega))), by rw [ht]; exact hP, va_K.moved hW.alike hK, hD⟩, hS.F ht⟩) hS.2.2 dX4_limit_11

set_option maxHeartbeats 40000000 in
set_option maxRecDepth 100000 in
theorem m_X4_budget (l : Launch) (dC : Nat → ClassId) (dI : Nat → Nat → Nat) (h0 : Nat) (R : Nat → Nat) (C : Nat → ClassId) (I : Nat → Int32) (F : Nat → Nat → Int32) (a1 : Int32) (sz : Nat) : Met l yX4_budget wsX4_budget ({ frames := 1, cells := 0, slots := 0, locals := 21 }) (va_Pc [.ref h0, .int a1] (pzPre (dC, dI) vwCl (gW h0 R C I F) (gT C) sz)) (va_Qi (fun (r : Int32) (u : (Nat → Int32) × (Nat → Nat → Int32)) => (if a1.toInt < 0 then r = -4 ∧ u.1 = I else if 100 < a1.toInt then r = -6 ∧ u.1 = I else r = I 6 ∧ u.1 = va_up I 6 a1) ∧ ∀ k, k ≠ 0 → u.2 k = F k) (fun (u : (Nat → Int32) × (Nat → Nat → Int32)) (t : State) => va_P (dC, dI) vwCl (gW h0 R C u.1 u.2) t.heap ∧ va_K (dC, dI) vwCl (gT C) t ∧ va_D (va_A (gW h0 R C I F) sz) (gW h0 R C u.1 u.2)) (va_A (gW h0 R C I F) sz)) 0 0 (va_A (gW h0 R C I F) sz) := by
  refine Met.ofW (cc := cX4_budget) (maxL := 3) (ret := (some .int)) (by decide) rfl ?_
  intro p e s m args below meth c s₁ B hml hv
  obtain ⟨rfl, hsz, hP, hK, hD0⟩ := hv
  have hx := B.exec
  have hb := B.bytes
  have hr := B.returns
  have hts := atoms_spec (ws := wsX4_budget) B.pre
  have hown : s.vm.findClass RX4 = some m.cls := findClass_of_methodNamed B.named
  have hlocks := B.notSynchronized
  subst hsz
  have hD := hD0.self (sz := s.heap.size)
  generalize hAe : va_A (gW h0 R C I F) s.heap.size = A at hD ⊢
  have hA : ∀ q : Nat, s.heap.size ≤ q → A q := fun q h => by rw [← hAe]; exact Or.inr h
  have hS : va_S A s.heap s.heap [] := va_S.rf
  have hP : va_P (dC, dI) vwCl (gW h0 R C I F) s.heap := hP
  have hl := lv_entry ([.ref h0, .int a1]) (n := 3) (Nat.le_of_ble_eq_true rfl)
  rw [lg_entry_eq]
  generalize (lg_sl ([.ref h0, .int a1]) ++ List.replicate (3 - (lg_sl ([.ref h0, .int a1])).length) Slot.unset).toArray = ls at hl ⊢
  have hl : lv_has ls 3 [(0, .ref h0), (1, .int a1)] := hl
  refine lv_iload_n hx hb dX4_budget_0 rfl (lv_at hl 1 rfl) ?_
  refine lv_if_ge (tgt := 11) hx hb dX4_budget_1 (by decide) (fun c_1 => ?_) (fun c_1 => ?_)
  · skip
    have i_1 : 0 ≤ a1.toInt := by have h9 := pz_ge c_1; exact h9
    refine lv_iload_n hx hb dX4_budget_11 rfl (lv_at hl 1 rfl) ?_
    refine lv_bipush (v := 100) hx hb dX4_budget_12 (by decide) ?_
    refine lv_icmp_le (tgt := 24) hx hb dX4_budget_14 (by decide) (fun c_2 => ?_) (fun c_2 => ?_)
    · skip
      have i_2 : a1.toInt ≤ 100 := by have h9 := pz_le c_2; exact h9
      refine lv_aload_n hx hb dX4_budget_24 rfl (lv_at hl 0 rfl) ?_
      refine va_get (D := (dC, dI)) (ci := 5) (v := .int (I 6)) (C := RX4) (T := TX4) (N := 43) hx hb hts (fun _ h => List.mem_cons_of_mem _ (List.mem_append_right _ h)) hown hK hP 0 rfl rfl 6 (by decide) (hts (.fieldLink RX4 17 "FrontDoorModel" "budget" "I") (by decide +kernel)) (fun _ h9 => h9) rfl dX4_budget_25 ?_
      refine lv_istore_n (lv' := [(2, .int (I 6)), (0, .ref h0), (1, .int a1)]) hx hb dX4_budget_28 rfl hl (by decide) rfl (fun ls hl => ?_)
      refine lv_aload_n hx hb dX4_budget_29 rfl (lv_at hl 1 rfl) ?_
      refine lv_iload_n hx hb dX4_budget_30 rfl (lv_at hl 2 rfl) ?_
      refine va_put (D := (dC, dI)) (ci := 5) (v := .int a1) (ty := .int) (C := RX4) (T := TX4) (N := 43) hx hb hts (fun _ h => List.mem_cons_of_mem _ (List.mem_append_right _ h)) tyX4 tyX4_ok nmX4 hown hK hP hD hS 0 rfl rfl 6 (by decide) (hts (.fieldLink RX4 17 "FrontDoorModel" "budget" "I") (by decide +kernel)) (fun _ h9 => h9) rfl (by decide +kernel) rfl rfl (Nat.le_of_ble_eq_true rfl) dX4_budget_31 (fun H locs hP hD hS => ?_)
      have hP : va_P (dC, dI) vwCl (gW h0 R C (va_up I 6 a1) F) H := hP
      have hD : va_D A (gW h0 R C (va_up I 6 a1) F) := hD
      refine lv_iload_n hx hb dX4_budget_34 rfl (lv_at hl 0 rfl) ?_
      exact W.iret (v := (I 6)) hx hb hr (fun t ht hW => ⟨⟨(I 6), ((va_up I 6 a1), F), rfl, (by first | (refine ⟨?_, fun k hk => rfl⟩; (repeat' split) <;> first | exact ⟨rfl, rfl⟩ | (exfalso; omega)) | (obtain ⟨-, w1, w2⟩ := hw; subst w1; refine ⟨?_, w2⟩; (repeat' split) <;> first | exact ⟨rfl, rfl⟩ | (exfalso; omega))), by rw [ht]; exact hP, va_K.moved hW.alike hK, hD⟩, hS.F ht⟩) hS.2.2 dX4_budget_35
    · skip
      have i_2 : 100 < a1.toInt := by have h9 := pz_nle c_2; exact h9
      refine lv_aload_n hx hb dX4_budget_17 rfl (lv_at hl 0 rfl) ?_
      refine lv_bipush (v := (-6)) hx hb dX4_budget_18 (by decide) ?_
      have hPc := hP.sub (ws' := (gW h0 R C I F)) [0, 1, 2, 3, 4, 5, 6, 7, 8, 9, 10, 11, 12, 13, 14, 15, 16, 17, 18, 19, 20, 21, 22, 23, 24, 25, 26, 27, 28, 29, 30, 31, 32] rfl
      have hDc := hD.sub (ws' := (gW h0 R C I F)) [0, 1, 2, 3, 4, 5, 6, 7, 8, 9, 10, 11, 12, 13, 14, 15, 16, 17, 18, 19, 20, 21, 22, 23, 24, 25, 26, 27, 28, 29, 30, 31, 32] (by decide) rfl
      have hKc := hK.sub (tys' := (gT C)) [0, 1, 2, 3, 4, 5, 6, 7, 8, 9, 10, 11, 12, 13, 14, 15, 16, 17, 18, 19, 20, 21, 22, 23, 24, 25, 26, 27, 28, 29, 30, 31] rfl
      have hFc := va_free (wc := (gW h0 R C I F)) hD hS hA [0, 1, 2, 3, 4, 5, 6, 7, 8, 9, 10, 11, 12, 13, 14, 15, 16, 17, 18, 19, 20, 21, 22, 23, 24, 25, 26, 27, 28, 29, 30, 31, 32] rfl
      refine va_calli (va_runV (As := [.int (-6)]) (rest := []) ⟨hx, hb, hml, hown, hts⟩ (m_X4_refuse6 l dC dI h0 R C I F s.heap.size) (cwV 1 hts gX4_budget_X4_refuse rfl rfl rfl (by decide +kernel) ⟨Nat.le_of_ble_eq_true rfl, Nat.le_of_ble_eq_true rfl⟩) ⟨pz_blind, va_recv hKc hPc (ci := 5) (q0 := 0) rfl rfl, fun U hU hW => ⟨rfl, pz_at hPc hKc hDc hU hW⟩⟩ rfl rfl hl.1 rfl (lv_room (Nat.le_of_ble_eq_true rfl)) dX4_budget_20 ⟨Nat.le_of_ble_eq_true rfl, Nat.le_of_ble_eq_true rfl⟩) hS (fun q _ h => hFc q h) hFc (fun r_3 u t H locs ht hvm hw hB hz1 hk1 hS => ?_)
      obtain ⟨I_3, F_3⟩ := u
      obtain ⟨hP1, hK1, hD1⟩ := hB
      rw [ht] at hP1
      try dsimp only at hw
      have hP := hP1
      have hD := hD1.weaken (fun _ _ _ h9 => hFc _ h9)
      have hP : va_P (dC, dI) vwCl (gW h0 R C I_3 F_3) H := hP
      have hD : va_D A (gW h0 R C I_3 F_3) := hD
      have hr8 : r_3 = (-6) := hw.1
      subst hr8
      exact W.iret (v := (-6)) hx hb hr (fun t ht hW => ⟨⟨(-6), (I_3, F_3), rfl, (by first | (refine ⟨?_, fun k hk => rfl⟩; (repeat' split) <;> first | exact ⟨rfl, rfl⟩ | (exfalso; omega)) | (obtain ⟨-, w1, w2⟩ := hw; subst w1; refine ⟨?_, w2⟩; (repeat' split) <;> first | exact ⟨rfl, rfl⟩ | (exfalso; omega))), by rw [ht]; exact hP, va_K.moved hW.alike hK, hD⟩, hS.F ht⟩) hS.2.2 dX4_budget_23
  · skip
    have i_1 : a1.toInt < 0 := by have h9 := pz_nge c_1; exact h9
    refine lv_aload_n hx hb dX4_budget_4 rfl (lv_at hl 0 rfl) ?_
    refine lv_bipush (v := (-4)) hx hb dX4_budget_5 (by decide) ?_
    have hPc := hP.sub (ws' := (gW h0 R C I F)) [0, 1, 2, 3, 4, 5, 6, 7, 8, 9, 10, 11, 12, 13, 14, 15, 16, 17, 18, 19, 20, 21, 22, 23, 24, 25, 26, 27, 28, 29, 30, 31, 32] rfl
    have hDc := hD.sub (ws' := (gW h0 R C I F)) [0, 1, 2, 3, 4, 5, 6, 7, 8, 9, 10, 11, 12, 13, 14, 15, 16, 17, 18, 19, 20, 21, 22, 23, 24, 25, 26, 27, 28, 29, 30, 31, 32] (by decide) rfl
    have hKc := hK.sub (tys' := (gT C)) [0, 1, 2, 3, 4, 5, 6, 7, 8, 9, 10, 11, 12, 13, 14, 15, 16, 17, 18, 19, 20, 21, 22, 23, 24, 25, 26, 27, 28, 29, 30, 31] rfl
    have hFc := va_free (wc := (gW h0 R C I F)) hD hS hA [0, 1, 2, 3, 4, 5, 6, 7, 8, 9, 10, 11, 12, 13, 14, 15, 16, 17, 18, 19, 20, 21, 22, 23, 24, 25, 26, 27, 28, 29, 30, 31, 32] rfl
    refine va_calli (va_runV (As := [.int (-4)]) (rest := []) ⟨hx, hb, hml, hown, hts⟩ (m_X4_refuse4 l dC dI h0 R C I F s.heap.size) (cwV 1 hts gX4_budget_X4_refuse rfl rfl rfl (by decide +kernel) ⟨Nat.le_of_ble_eq_true rfl, Nat.le_of_ble_eq_true rfl⟩) ⟨pz_blind, va_recv hKc hPc (ci := 5) (q0 := 0) rfl rfl, fun U hU hW => ⟨rfl, pz_at hPc hKc hDc hU hW⟩⟩ rfl rfl hl.1 rfl (lv_room (Nat.le_of_ble_eq_true rfl)) dX4_budget_7 ⟨Nat.le_of_ble_eq_true rfl, Nat.le_of_ble_eq_true rfl⟩) hS (fun q _ h => hFc q h) hFc (fun r_4 u t H locs ht hvm hw hB hz1 hk1 hS => ?_)
    obtain ⟨I_4, F_4⟩ := u
    obtain ⟨hP1, hK1, hD1⟩ := hB
    rw [ht] at hP1
    try dsimp only at hw
    have hP := hP1
    have hD := hD1.weaken (fun _ _ _ h9 => hFc _ h9)
    have hP : va_P (dC, dI) vwCl (gW h0 R C I_4 F_4) H := hP
    have hD : va_D A (gW h0 R C I_4 F_4) := hD
    have hr8 : r_4 = (-4) := hw.1
    subst hr8
    exact W.iret (v := (-4)) hx hb hr (fun t ht hW => ⟨⟨(-4), (I_4, F_4), rfl, (by first | (refine ⟨?_, fun k hk => rfl⟩; (repeat' split) <;> first | exact ⟨rfl, rfl⟩ | (exfalso; omega)) | (obtain ⟨-, w1, w2⟩ := hw; subst w1; refine ⟨?_, w2⟩; (repeat' split) <;> first | exact ⟨rfl, rfl⟩ | (exfalso; omega))), by rw [ht]; exact hP, va_K.moved hW.alike hK, hD⟩, hS.F ht⟩) hS.2.2 dX4_budget_10

set_option maxHeartbeats 40000000 in
set_option maxRecDepth 100000 in
theorem m_X4_hedge (l : Launch) (dC : Nat → ClassId) (dI : Nat → Nat → Nat) (h0 : Nat) (R : Nat → Nat) (C : Nat → ClassId) (I : Nat → Int32) (F : Nat → Nat → Int32) (a1 : Int32) (sz : Nat) : Met l yX4_hedge wsX4_hedge ({ frames := 1, cells := 0, slots := 0, locals := 21 }) (va_Pc [.ref h0, .int a1] (pzPre (dC, dI) vwCl (gW h0 R C I F) (gT C) sz)) (va_Qi (fun (r : Int32) (u : (Nat → Int32) × (Nat → Nat → Int32)) => (if a1.toInt < 0 then r = -4 ∧ u.1 = I else if 500 < a1.toInt then r = -6 ∧ u.1 = I else r = I 7 ∧ u.1 = va_up I 7 a1) ∧ ∀ k, k ≠ 0 → u.2 k = F k) (fun (u : (Nat → Int32) × (Nat → Nat → Int32)) (t : State) => va_P (dC, dI) vwCl (gW h0 R C u.1 u.2) t.heap ∧ va_K (dC, dI) vwCl (gT C) t ∧ va_D (va_A (gW h0 R C I F) sz) (gW h0 R C u.1 u.2)) (va_A (gW h0 R C I F) sz)) 0 0 (va_A (gW h0 R C I F) sz) := by
  refine Met.ofW (cc := cX4_hedge) (maxL := 3) (ret := (some .int)) (by decide) rfl ?_
  intro p e s m args below meth c s₁ B hml hv
  obtain ⟨rfl, hsz, hP, hK, hD0⟩ := hv
  have hx := B.exec
  have hb := B.bytes
  have hr := B.returns
  have hts := atoms_spec (ws := wsX4_hedge) B.pre
  have hown : s.vm.findClass RX4 = some m.cls := findClass_of_methodNamed B.named
  have hlocks := B.notSynchronized
  subst hsz
  have hD := hD0.self (sz := s.heap.size)
  generalize hAe : va_A (gW h0 R C I F) s.heap.size = A at hD ⊢
  have hA : ∀ q : Nat, s.heap.size ≤ q → A q := fun q h => by rw [← hAe]; exact Or.inr h
  have hS : va_S A s.heap s.heap [] := va_S.rf
  have hP : va_P (dC, dI) vwCl (gW h0 R C I F) s.heap := hP
  have hl := lv_entry ([.ref h0, .int a1]) (n := 3) (Nat.le_of_ble_eq_true rfl)
  rw [lg_entry_eq]
  generalize (lg_sl ([.ref h0, .int a1]) ++ List.replicate (3 - (lg_sl ([.ref h0, .int a1])).length) Slot.unset).toArray = ls at hl ⊢
  have hl : lv_has ls 3 [(0, .ref h0), (1, .int a1)] := hl
  refine lv_iload_n hx hb dX4_hedge_0 rfl (lv_at hl 1 rfl) ?_
  refine lv_if_ge (tgt := 11) hx hb dX4_hedge_1 (by decide) (fun c_1 => ?_) (fun c_1 => ?_)
  · skip
    have i_1 : 0 ≤ a1.toInt := by have h9 := pz_ge c_1; exact h9
    refine lv_iload_n hx hb dX4_hedge_11 rfl (lv_at hl 1 rfl) ?_
    refine lv_sipush (v := 500) hx hb dX4_hedge_12 (by decide) ?_
    refine lv_icmp_le (tgt := 25) hx hb dX4_hedge_15 (by decide) (fun c_2 => ?_) (fun c_2 => ?_)
    · skip
      have i_2 : a1.toInt ≤ 500 := by have h9 := pz_le c_2; exact h9
      refine lv_aload_n hx hb dX4_hedge_25 rfl (lv_at hl 0 rfl) ?_
      refine va_get (D := (dC, dI)) (ci := 5) (v := .int (I 7)) (C := RX4) (T := TX4) (N := 43) hx hb hts (fun _ h => List.mem_cons_of_mem _ (List.mem_append_right _ h)) hown hK hP 0 rfl rfl 7 (by decide) (hts (.fieldLink RX4 139 "FrontDoorModel" "hedge" "I") (by decide +kernel)) (fun _ h9 => h9) rfl dX4_hedge_26 ?_
      refine lv_istore_n (lv' := [(2, .int (I 7)), (0, .ref h0), (1, .int a1)]) hx hb dX4_hedge_29 rfl hl (by decide) rfl (fun ls hl => ?_)
      refine lv_aload_n hx hb dX4_hedge_30 rfl (lv_at hl 1 rfl) ?_
      refine lv_iload_n hx hb dX4_hedge_31 rfl (lv_at hl 2 rfl) ?_
      refine va_put (D := (dC, dI)) (ci := 5) (v := .int a1) (ty := .int) (C := RX4) (T := TX4) (N := 43) hx hb hts (fun _ h => List.mem_cons_of_mem _ (List.mem_append_right _ h)) tyX4 tyX4_ok nmX4 hown hK hP hD hS 0 rfl rfl 7 (by decide) (hts (.fieldLink RX4 139 "FrontDoorModel" "hedge" "I") (by decide +kernel)) (fun _ h9 => h9) rfl (by decide +kernel) rfl rfl (Nat.le_of_ble_eq_true rfl) dX4_hedge_32 (fun H locs hP hD hS => ?_)
      have hP : va_P (dC, dI) vwCl (gW h0 R C (va_up I 7 a1) F) H := hP
      have hD : va_D A (gW h0 R C (va_up I 7 a1) F) := hD
      refine lv_iload_n hx hb dX4_hedge_35 rfl (lv_at hl 0 rfl) ?_
      exact W.iret (v := (I 7)) hx hb hr (fun t ht hW => ⟨⟨(I 7), ((va_up I 7 a1), F), rfl, (by first | (refine ⟨?_, fun k hk => rfl⟩; (repeat' split) <;> first | exact ⟨rfl, rfl⟩ | (exfalso; omega)) | (obtain ⟨-, w1, w2⟩ := hw; subst w1; refine ⟨?_, w2⟩; (repeat' split) <;> first | exact ⟨rfl, rfl⟩ | (exfalso; omega))), by rw [ht]; exact hP, va_K.moved hW.alike hK, hD⟩, hS.F ht⟩) hS.2.2 dX4_hedge_36
    · skip
      have i_2 : 500 < a1.toInt := by have h9 := pz_nle c_2; exact h9
      refine lv_aload_n hx hb dX4_hedge_18 rfl (lv_at hl 0 rfl) ?_
      refine lv_bipush (v := (-6)) hx hb dX4_hedge_19 (by decide) ?_
      have hPc := hP.sub (ws' := (gW h0 R C I F)) [0, 1, 2, 3, 4, 5, 6, 7, 8, 9, 10, 11, 12, 13, 14, 15, 16, 17, 18, 19, 20, 21, 22, 23, 24, 25, 26, 27, 28, 29, 30, 31, 32] rfl
      have hDc := hD.sub (ws' := (gW h0 R C I F)) [0, 1, 2, 3, 4, 5, 6, 7, 8, 9, 10, 11, 12, 13, 14, 15, 16, 17, 18, 19, 20, 21, 22, 23, 24, 25, 26, 27, 28, 29, 30, 31, 32] (by decide) rfl
      have hKc := hK.sub (tys' := (gT C)) [0, 1, 2, 3, 4, 5, 6, 7, 8, 9, 10, 11, 12, 13, 14, 15, 16, 17, 18, 19, 20, 21, 22, 23, 24, 25, 26, 27, 28, 29, 30, 31] rfl
      have hFc := va_free (wc := (gW h0 R C I F)) hD hS hA [0, 1, 2, 3, 4, 5, 6, 7, 8, 9, 10, 11, 12, 13, 14, 15, 16, 17, 18, 19, 20, 21, 22, 23, 24, 25, 26, 27, 28, 29, 30, 31, 32] rfl
      refine va_calli (va_runV (As := [.int (-6)]) (rest := []) ⟨hx, hb, hml, hown, hts⟩ (m_X4_refuse6 l dC dI h0 R C I F s.heap.size) (cwV 1 hts gX4_hedge_X4_refuse rfl rfl rfl (by decide +kernel) ⟨Nat.le_of_ble_eq_true rfl, Nat.le_of_ble_eq_true rfl⟩) ⟨pz_blind, va_recv hKc hPc (ci := 5) (q0 := 0) rfl rfl, fun U hU hW => ⟨rfl, pz_at hPc hKc hDc hU hW⟩⟩ rfl rfl hl.1 rfl (lv_room (Nat.le_of_ble_eq_true rfl)) dX4_hedge_21 ⟨Nat.le_of_ble_eq_true rfl, Nat.le_of_ble_eq_true rfl⟩) hS (fun q _ h => hFc q h) hFc (fun r_3 u t H locs ht hvm hw hB hz1 hk1 hS => ?_)
      obtain ⟨I_3, F_3⟩ := u
      obtain ⟨hP1, hK1, hD1⟩ := hB
      rw [ht] at hP1
      try dsimp only at hw
      have hP := hP1
      have hD := hD1.weaken (fun _ _ _ h9 => hFc _ h9)
      have hP : va_P (dC, dI) vwCl (gW h0 R C I_3 F_3) H := hP
      have hD : va_D A (gW h0 R C I_3 F_3) := hD
      have hr8 : r_3 = (-6) := hw.1
      subst hr8
      exact W.iret (v := (-6)) hx hb hr (fun t ht hW => ⟨⟨(-6), (I_3, F_3), rfl, (by first | (refine ⟨?_, fun k hk => rfl⟩; (repeat' split) <;> first | exact ⟨rfl, rfl⟩ | (exfalso; omega)) | (obtain ⟨-, w1, w2⟩ := hw; subst w1; refine ⟨?_, w2⟩; (repeat' split) <;> first | exact ⟨rfl, rfl⟩ | (exfalso; omega))), by rw [ht]; exact hP, va_K.moved hW.alike hK, hD⟩, hS.F ht⟩) hS.2.2 dX4_hedge_24
  · skip
    have i_1 : a1.toInt < 0 := by have h9 := pz_nge c_1; exact h9
    refine lv_aload_n hx hb dX4_hedge_4 rfl (lv_at hl 0 rfl) ?_
    refine lv_bipush (v := (-4)) hx hb dX4_hedge_5 (by decide) ?_
    have hPc := hP.sub (ws' := (gW h0 R C I F)) [0, 1, 2, 3, 4, 5, 6, 7, 8, 9, 10, 11, 12, 13, 14, 15, 16, 17, 18, 19, 20, 21, 22, 23, 24, 25, 26, 27, 28, 29, 30, 31, 32] rfl
    have hDc := hD.sub (ws' := (gW h0 R C I F)) [0, 1, 2, 3, 4, 5, 6, 7, 8, 9, 10, 11, 12, 13, 14, 15, 16, 17, 18, 19, 20, 21, 22, 23, 24, 25, 26, 27, 28, 29, 30, 31, 32] (by decide) rfl
    have hKc := hK.sub (tys' := (gT C)) [0, 1, 2, 3, 4, 5, 6, 7, 8, 9, 10, 11, 12, 13, 14, 15, 16, 17, 18, 19, 20, 21, 22, 23, 24, 25, 26, 27, 28, 29, 30, 31] rfl
    have hFc := va_free (wc := (gW h0 R C I F)) hD hS hA [0, 1, 2, 3, 4, 5, 6, 7, 8, 9, 10, 11, 12, 13, 14, 15, 16, 17, 18, 19, 20, 21, 22, 23, 24, 25, 26, 27, 28, 29, 30, 31, 32] rfl
    refine va_calli (va_runV (As := [.int (-4)]) (rest := []) ⟨hx, hb, hml, hown, hts⟩ (m_X4_refuse4 l dC dI h0 R C I F s.heap.size) (cwV 1 hts gX4_hedge_X4_refuse rfl rfl rfl (by decide +kernel) ⟨Nat.le_of_ble_eq_true rfl, Nat.le_of_ble_eq_true rfl⟩) ⟨pz_blind, va_recv hKc hPc (ci := 5) (q0 := 0) rfl rfl, fun U hU hW => ⟨rfl, pz_at hPc hKc hDc hU hW⟩⟩ rfl rfl hl.1 rfl (lv_room (Nat.le_of_ble_eq_true rfl)) dX4_hedge_7 ⟨Nat.le_of_ble_eq_true rfl, Nat.le_of_ble_eq_true rfl⟩) hS (fun q _ h => hFc q h) hFc (fun r_4 u t H locs ht hvm hw hB hz1 hk1 hS => ?_)
    obtain ⟨I_4, F_4⟩ := u
    obtain ⟨hP1, hK1, hD1⟩ := hB
    rw [ht] at hP1
    try dsimp only at hw
    have hP := hP1
    have hD := hD1.weaken (fun _ _ _ h9 => hFc _ h9)
    have hP : va_P (dC, dI) vwCl (gW h0 R C I_4 F_4) H := hP
    have hD : va_D A (gW h0 R C I_4 F_4) := hD
    have hr8 : r_4 = (-4) := hw.1
    subst hr8
    exact W.iret (v := (-4)) hx hb hr (fun t ht hW => ⟨⟨(-4), (I_4, F_4), rfl, (by first | (refine ⟨?_, fun k hk => rfl⟩; (repeat' split) <;> first | exact ⟨rfl, rfl⟩ | (exfalso; omega)) | (obtain ⟨-, w1, w2⟩ := hw; subst w1; refine ⟨?_, w2⟩; (repeat' split) <;> first | exact ⟨rfl, rfl⟩ | (exfalso; omega))), by rw [ht]; exact hP, va_K.moved hW.alike hK, hD⟩, hS.F ht⟩) hS.2.2 dX4_hedge_10
end
section
set_option maxHeartbeats 40000000 in
set_option maxRecDepth 100000 in
theorem m_X4_serverOf (l : Launch) (dC : Nat → ClassId) (dI : Nat → Nat → Nat) (h0 : Nat) (R : Nat → Nat) (C : Nat → ClassId) (I : Nat → Int32) (F : Nat → Nat → Int32) (ns : Nat) (a1 : Int32) (a2 : Int32) (sz : Nat) (hns : I 2 = nI ns) (hbn : ns ≤ 8) : Met l yX4_serverOf wsX4_serverOf ({ frames := 2, cells := 0, slots := 0, locals := 42 }) (va_Pc [.ref h0, .int a1, .int a2] (pzPre (dC, dI) vwCl (gW h0 R C I F) (gT C) sz)) (va_Qi (fun (r : Int32) (u : (Nat → Int32) × (Nat → Nat → Int32)) => u.1 = I ∧ ∀ k, k ≠ 0 → u.2 k = F k) (fun (u : (Nat → Int32) × (Nat → Nat → Int32)) (t : State) => va_P (dC, dI) vwCl (gW h0 R C u.1 u.2) t.heap ∧ va_K (dC, dI) vwCl (gT C) t ∧ va_D (va_A (gW h0 R C I F) sz) (gW h0 R C u.1 u.2)) (va_A (gW h0 R C I F) sz)) 0 0 (va_A (gW h0 R C I F) sz) := by
  refine Met.ofW (cc := cX4_serverOf) (maxL := 3) (ret := (some .int)) (by decide) rfl ?_
  intro p e s m args below meth c s₁ B hml hv
  obtain ⟨rfl, hsz, hP, hK, hD0⟩ := hv
  have hx := B.exec
  have hb := B.bytes
  have hr := B.returns
  have hts := atoms_spec (ws := wsX4_serverOf) B.pre
  have hown : s.vm.findClass RX4 = some m.cls := findClass_of_methodNamed B.named
  have hlocks := B.notSynchronized
  subst hsz
  have hD := hD0.self (sz := s.heap.size)
  generalize hAe : va_A (gW h0 R C I F) s.heap.size = A at hD ⊢
  have hA : ∀ q : Nat, s.heap.size ≤ q → A q := fun q h => by rw [← hAe]; exact Or.inr h
  have hS : va_S A s.heap s.heap [] := va_S.rf
  have hP : va_P (dC, dI) vwCl (gW h0 R C I F) s.heap := hP
  have hnsI : (nI ns).toInt = (ns : Int) := nI_toInt (by omega)
  have hl := lv_entry ([.ref h0, .int a1, .int a2]) (n := 3) (Nat.le_of_ble_eq_true rfl)
  rw [lg_entry_eq]
  generalize (lg_sl ([.ref h0, .int a1, .int a2]) ++ List.replicate (3 - (lg_sl ([.ref h0, .int a1, .int a2])).length) Slot.unset).toArray = ls at hl ⊢
  have hl : lv_has ls 3 [(0, .ref h0), (1, .int a1), (2, .int a2)] := hl
  refine lv_aload_n hx hb dX4_serverOf_0 rfl (lv_at hl 0 rfl) ?_
  refine lv_iload_n hx hb dX4_serverOf_1 rfl (lv_at hl 1 rfl) ?_
  have hPc := hP.sub (ws' := (gW h0 R C I F)) [0, 1, 2, 3, 4, 5, 6, 7, 8, 9, 10, 11, 12, 13, 14, 15, 16, 17, 18, 19, 20, 21, 22, 23, 24, 25, 26, 27, 28, 29, 30, 31, 32] rfl
  have hDc := hD.sub (ws' := (gW h0 R C I F)) [0, 1, 2, 3, 4, 5, 6, 7, 8, 9, 10, 11, 12, 13, 14, 15, 16, 17, 18, 19, 20, 21, 22, 23, 24, 25, 26, 27, 28, 29, 30, 31, 32] (by decide) rfl
  have hKc := hK.sub (tys' := (gT C)) [0, 1, 2, 3, 4, 5, 6, 7, 8, 9, 10, 11, 12, 13, 14, 15, 16, 17, 18, 19, 20, 21, 22, 23, 24, 25, 26, 27, 28, 29, 30, 31] rfl
  have hFc := pz_f hA hS
  refine va_calli (va_runV (As := [.int a1]) (rest := []) ⟨hx, hb, hml, hown, hts⟩ (m_X4_isServer l dC dI h0 R C I F ns a1 s.heap.size hns hbn) (cwV 1 hts gX4_serverOf_X4_isServer rfl rfl rfl (by decide +kernel) ⟨Nat.le_of_ble_eq_true rfl, Nat.le_of_ble_eq_true rfl⟩) ⟨pz_blind, va_recv hKc hPc (ci := 5) (q0 := 0) rfl rfl, fun U hU hW => ⟨rfl, pz_at hPc hKc hDc hU hW⟩⟩ rfl rfl hl.1 rfl (lv_room (Nat.le_of_ble_eq_true rfl)) dX4_serverOf_2 ⟨Nat.le_of_ble_eq_true rfl, Nat.le_of_ble_eq_true rfl⟩) hS (fun q _ h => hFc q h) hFc (fun r_1 u t H locs ht hvm hw hB hz1 hk1 hS => ?_)
  have hP := pz_keep hP hk1
  rcases hw with ⟨f_1_0, f_1_1, hr9⟩ | ⟨f_1_0, hr9⟩
  · skip
    have hr9 : r_1 = 1 := hr9
    subst hr9
    have f_1_0 : 0 ≤ a1.toInt := pz_id f_1_0
    have f_1_1 : a1.toInt < (nI ns).toInt := pz_id f_1_1
    obtain ⟨j_1, hj_1, ej_1⟩ : ∃ j : Nat, j < ns ∧ a1 = nI j := pz_ixof f_1_0 f_1_1 (by omega)
    subst ej_1
    refine lv_if_ne (tgt := 14) hx hb dX4_serverOf_5 (by decide) (fun c_2 => ?_) (fun c_2 => absurd c_2 (by decide))
    refine lv_iload_n hx hb dX4_serverOf_14 rfl (lv_at hl 2 rfl) ?_
    by_cases t_3 : a2.toInt < 0 ∨ 15 < a2.toInt
    · skip
      refine lv_tableOut (tgt := 222) hx hb dX4_serverOf_15 t_3 (by decide) ?_
      refine lv_aload_n hx hb dX4_serverOf_222 rfl (lv_at hl 0 rfl) ?_
      refine lv_bipush (v := (-2)) hx hb dX4_serverOf_223 (by decide) ?_
      have hPc := hP.sub (ws' := (gW h0 R C I F)) [0, 1, 2, 3, 4, 5, 6, 7, 8, 9, 10, 11, 12, 13, 14, 15, 16, 17, 18, 19, 20, 21, 22, 23, 24, 25, 26, 27, 28, 29, 30, 31, 32] rfl
      have hDc := hD.sub (ws' := (gW h0 R C I F)) [0, 1, 2, 3, 4, 5, 6, 7, 8, 9, 10, 11, 12, 13, 14, 15, 16, 17, 18, 19, 20, 21, 22, 23, 24, 25, 26, 27, 28, 29, 30, 31, 32] (by decide) rfl
      have hKc := hK.sub (tys' := (gT C)) [0, 1, 2, 3, 4, 5, 6, 7, 8, 9, 10, 11, 12, 13, 14, 15, 16, 17, 18, 19, 20, 21, 22, 23, 24, 25, 26, 27, 28, 29, 30, 31] rfl
      have hFc := va_free (wc := (gW h0 R C I F)) hD hS hA [0, 1, 2, 3, 4, 5, 6, 7, 8, 9, 10, 11, 12, 13, 14, 15, 16, 17, 18, 19, 20, 21, 22, 23, 24, 25, 26, 27, 28, 29, 30, 31, 32] rfl
      refine va_calli (va_runV (As := [.int (-2)]) (rest := []) ⟨hx, hb, hml, hown, hts⟩ (m_X4_refuse2 l dC dI h0 R C I F H.size) (cwV 1 hts gX4_serverOf_X4_refuse rfl rfl rfl (by decide +kernel) ⟨Nat.le_of_ble_eq_true rfl, Nat.le_of_ble_eq_true rfl⟩) ⟨pz_blind, va_recv hKc hPc (ci := 5) (q0 := 0) rfl rfl, fun U hU hW => ⟨rfl, pz_at hPc hKc hDc hU hW⟩⟩ rfl rfl hl.1 rfl (lv_room (Nat.le_of_ble_eq_true rfl)) dX4_serverOf_225 ⟨Nat.le_of_ble_eq_true rfl, Nat.le_of_ble_eq_true rfl⟩) hS (fun q _ h => hFc q h) hFc (fun r_4 u t H locs ht hvm hw hB hz1 hk1 hS => ?_)
      obtain ⟨I_4, F_4⟩ := u
      obtain ⟨hP1, hK1, hD1⟩ := hB
      rw [ht] at hP1
      try dsimp only at hw
      have hP := hP1
      have hD := hD1.weaken (fun _ _ _ h9 => hFc _ h9)
      have hP : va_P (dC, dI) vwCl (gW h0 R C I_4 F_4) H := hP
      have hD : va_D A (gW h0 R C I_4 F_4) := hD
      have hr8 : r_4 = (-2) := hw.1
      subst hr8
      exact W.iret (v := (-2)) hx hb hr (fun t ht hW => ⟨⟨(-2), (I_4, F_4), rfl, (by first | exact ⟨rfl, fun k hk => rfl⟩ | exact ⟨hw.2.1, hw.2.2⟩), by rw [ht]; exact hP, va_K.moved hW.alike hK, hD⟩, hS.F ht⟩) hS.2.2 dX4_serverOf_228
    · skip
      rcases pz_cases16 t_3 with e_3 | e_3 | e_3 | e_3 | e_3 | e_3 | e_3 | e_3 | e_3 | e_3 | e_3 | e_3 | e_3 | e_3 | e_3 | e_3
      · skip
        subst e_3
        refine lv_tableIn (off := 77) (tgt := 92) hx hb dX4_serverOf_15 (by decide) (by decide) (by decide) (by decide) ?_
        refine lv_aload_n hx hb dX4_serverOf_92 rfl (lv_at hl 0 rfl) ?_
        refine va_get (D := (dC, dI)) (ci := 5) (v := .ref (R 17)) (C := RX4) (T := TX4) (N := 43) hx hb hts (fun _ h => List.mem_cons_of_mem _ (List.mem_append_right _ h)) hown hK hP 0 rfl rfl 17 (by decide) (hts (.fieldLink RX4 38 "FrontDoorModel" "health" "[I") (by decide +kernel)) (fun _ h9 => h9) rfl dX4_serverOf_93 ?_
        refine lv_iload_n hx hb dX4_serverOf_96 rfl (lv_at hl 1 rfl) ?_
        refine va_iald hx hb hK hP 8 7 rfl rfl (vp_in_nI (by omega) (by decide)) dX4_serverOf_97 ?_
        refine lv_topi (fun x_5 ex_5 => ?_)
        replace ex_5 : x_5 = (F 17) (Int32.toNatClampNeg (nI j_1)) := ex_5
        exact W.iret (v := x_5) hx hb hr (fun t ht hW => ⟨⟨x_5, (I, F), rfl, (by first | exact ⟨rfl, fun k hk => rfl⟩ | exact ⟨hw.2.1, hw.2.2⟩), by rw [ht]; exact hP, va_K.moved hW.alike hK, hD⟩, hS.F ht⟩) hS.2.2 dX4_serverOf_98
      · skip
        subst e_3
        refine lv_tableIn (off := 84) (tgt := 99) hx hb dX4_serverOf_15 (by decide) (by decide) (by decide) (by decide) ?_
        refine lv_aload_n hx hb dX4_serverOf_99 rfl (lv_at hl 0 rfl) ?_
        refine va_get (D := (dC, dI)) (ci := 5) (v := .ref (R 18)) (C := RX4) (T := TX4) (N := 43) hx hb hts (fun _ h => List.mem_cons_of_mem _ (List.mem_append_right _ h)) hown hK hP 0 rfl rfl 18 (by decide) (hts (.fieldLink RX4 41 "FrontDoorModel" "open" "[I") (by decide +kernel)) (fun _ h9 => h9) rfl dX4_serverOf_100 ?_
        refine lv_iload_n hx hb dX4_serverOf_103 rfl (lv_at hl 1 rfl) ?_
        refine va_iald hx hb hK hP 9 8 rfl rfl (vp_in_nI (by omega) (by decide)) dX4_serverOf_104 ?_
        refine lv_topi (fun x_6 ex_6 => ?_)
        replace ex_6 : x_6 = (F 18) (Int32.toNatClampNeg (nI j_1)) := ex_6
        exact W.iret (v := x_6) hx hb hr (fun t ht hW => ⟨⟨x_6, (I, F), rfl, (by first | exact ⟨rfl, fun k hk => rfl⟩ | exact ⟨hw.2.1, hw.2.2⟩), by rw [ht]; exact hP, va_K.moved hW.alike hK, hD⟩, hS.F ht⟩) hS.2.2 dX4_serverOf_105
      · skip
        subst e_3
        refine lv_tableIn (off := 91) (tgt := 106) hx hb dX4_serverOf_15 (by decide) (by decide) (by decide) (by decide) ?_
        refine lv_aload_n hx hb dX4_serverOf_106 rfl (lv_at hl 0 rfl) ?_
        refine va_get (D := (dC, dI)) (ci := 5) (v := .ref (R 19)) (C := RX4) (T := TX4) (N := 43) hx hb hts (fun _ h => List.mem_cons_of_mem _ (List.mem_append_right _ h)) hown hK hP 0 rfl rfl 19 (by decide) (hts (.fieldLink RX4 44 "FrontDoorModel" "asked" "[I") (by decide +kernel)) (fun _ h9 => h9) rfl dX4_serverOf_107 ?_
        refine lv_iload_n hx hb dX4_serverOf_110 rfl (lv_at hl 1 rfl) ?_
        refine va_iald hx hb hK hP 10 9 rfl rfl (vp_in_nI (by omega) (by decide)) dX4_serverOf_111 ?_
        refine lv_topi (fun x_7 ex_7 => ?_)
        replace ex_7 : x_7 = (F 19) (Int32.toNatClampNeg (nI j_1)) := ex_7
        exact W.iret (v := x_7) hx hb hr (fun t ht hW => ⟨⟨x_7, (I, F), rfl, (by first | exact ⟨rfl, fun k hk => rfl⟩ | exact ⟨hw.2.1, hw.2.2⟩), by rw [ht]; exact hP, va_K.moved hW.alike hK, hD⟩, hS.F ht⟩) hS.2.2 dX4_serverOf_112
      · skip
        subst e_3
        refine lv_tableIn (off := 98) (tgt := 113) hx hb dX4_serverOf_15 (by decide) (by decide) (by decide) (by decide) ?_
        refine lv_aload_n hx hb dX4_serverOf_113 rfl (lv_at hl 0 rfl) ?_
        refine va_get (D := (dC, dI)) (ci := 5) (v := .ref (R 20)) (C := RX4) (T := TX4) (N := 43) hx hb hts (fun _ h => List.mem_cons_of_mem _ (List.mem_append_right _ h)) hown hK hP 0 rfl rfl 20 (by decide) (hts (.fieldLink RX4 47 "FrontDoorModel" "answers" "[I") (by decide +kernel)) (fun _ h9 => h9) rfl dX4_serverOf_114 ?_
        refine lv_iload_n hx hb dX4_serverOf_117 rfl (lv_at hl 1 rfl) ?_
        refine va_iald hx hb hK hP 11 10 rfl rfl (vp_in_nI (by omega) (by decide)) dX4_serverOf_118 ?_
        refine lv_topi (fun x_8 ex_8 => ?_)
        replace ex_8 : x_8 = (F 20) (Int32.toNatClampNeg (nI j_1)) := ex_8
        exact W.iret (v := x_8) hx hb hr (fun t ht hW => ⟨⟨x_8, (I, F), rfl, (by first | exact ⟨rfl, fun k hk => rfl⟩ | exact ⟨hw.2.1, hw.2.2⟩), by rw [ht]; exact hP, va_K.moved hW.alike hK, hD⟩, hS.F ht⟩) hS.2.2 dX4_serverOf_119
      · skip
        subst e_3
        refine lv_tableIn (off := 105) (tgt := 120) hx hb dX4_serverOf_15 (by decide) (by decide) (by decide) (by decide) ?_
        refine lv_aload_n hx hb dX4_serverOf_120 rfl (lv_at hl 0 rfl) ?_
        refine va_get (D := (dC, dI)) (ci := 5) (v := .ref (R 21)) (C := RX4) (T := TX4) (N := 43) hx hb hts (fun _ h => List.mem_cons_of_mem _ (List.mem_append_right _ h)) hown hK hP 0 rfl rfl 21 (by decide) (hts (.fieldLink RX4 50 "FrontDoorModel" "failures" "[I") (by decide +kernel)) (fun _ h9 => h9) rfl dX4_serverOf_121 ?_
        refine lv_iload_n hx hb dX4_serverOf_124 rfl (lv_at hl 1 rfl) ?_
        refine va_iald hx hb hK hP 12 11 rfl rfl (vp_in_nI (by omega) (by decide)) dX4_serverOf_125 ?_
        refine lv_topi (fun x_9 ex_9 => ?_)
        replace ex_9 : x_9 = (F 21) (Int32.toNatClampNeg (nI j_1)) := ex_9
        exact W.iret (v := x_9) hx hb hr (fun t ht hW => ⟨⟨x_9, (I, F), rfl, (by first | exact ⟨rfl, fun k hk => rfl⟩ | exact ⟨hw.2.1, hw.2.2⟩), by rw [ht]; exact hP, va_K.moved hW.alike hK, hD⟩, hS.F ht⟩) hS.2.2 dX4_serverOf_126
      · skip
        subst e_3
        refine lv_tableIn (off := 112) (tgt := 127) hx hb dX4_serverOf_15 (by decide) (by decide) (by decide) (by decide) ?_
        refine lv_aload_n hx hb dX4_serverOf_127 rfl (lv_at hl 0 rfl) ?_
        refine va_get (D := (dC, dI)) (ci := 5) (v := .ref (R 22)) (C := RX4) (T := TX4) (N := 43) hx hb hts (fun _ h => List.mem_cons_of_mem _ (List.mem_append_right _ h)) hown hK hP 0 rfl rfl 22 (by decide) (hts (.fieldLink RX4 53 "FrontDoorModel" "row" "[I") (by decide +kernel)) (fun _ h9 => h9) rfl dX4_serverOf_128 ?_
        refine lv_iload_n hx hb dX4_serverOf_131 rfl (lv_at hl 1 rfl) ?_
        refine va_iald hx hb hK hP 13 12 rfl rfl (vp_in_nI (by omega) (by decide)) dX4_serverOf_132 ?_
        refine lv_topi (fun x_10 ex_10 => ?_)
        replace ex_10 : x_10 = (F 22) (Int32.toNatClampNeg (nI j_1)) := ex_10
        exact W.iret (v := x_10) hx hb hr (fun t ht hW => ⟨⟨x_10, (I, F), rfl, (by first | exact ⟨rfl, fun k hk => rfl⟩ | exact ⟨hw.2.1, hw.2.2⟩), by rw [ht]; exact hP, va_K.moved hW.alike hK, hD⟩, hS.F ht⟩) hS.2.2 dX4_serverOf_133
      · skip
        subst e_3
        refine lv_tableIn (off := 119) (tgt := 134) hx hb dX4_serverOf_15 (by decide) (by decide) (by decide) (by decide) ?_
        refine lv_aload_n hx hb dX4_serverOf_134 rfl (lv_at hl 0 rfl) ?_
        refine va_get (D := (dC, dI)) (ci := 5) (v := .ref (R 17)) (C := RX4) (T := TX4) (N := 43) hx hb hts (fun _ h => List.mem_cons_of_mem _ (List.mem_append_right _ h)) hown hK hP 0 rfl rfl 17 (by decide) (hts (.fieldLink RX4 38 "FrontDoorModel" "health" "[I") (by decide +kernel)) (fun _ h9 => h9) rfl dX4_serverOf_135 ?_
        refine lv_iload_n hx hb dX4_serverOf_138 rfl (lv_at hl 1 rfl) ?_
        refine va_iald hx hb hK hP 8 7 rfl rfl (vp_in_nI (by omega) (by decide)) dX4_serverOf_139 ?_
        refine lv_topi (fun x_11 ex_11 => ?_)
        replace ex_11 : x_11 = (F 17) (Int32.toNatClampNeg (nI j_1)) := ex_11
        refine lv_iconst (v := 1) hx hb dX4_serverOf_140 (by decide) ?_
        refine lv_icmp_ne (tgt := 153) hx hb dX4_serverOf_141 (by decide) (fun c_12 => ?_) (fun c_12 => ?_)
        · skip
          have i_12 : ¬ x_11.toInt = 1 := by have h9 := pz_neq c_12; exact h9
          refine lv_bipush (v := (-9)) hx hb dX4_serverOf_153 (by decide) ?_
          exact W.iret (v := (-9)) hx hb hr (fun t ht hW => ⟨⟨(-9), (I, F), rfl, (by first | exact ⟨rfl, fun k hk => rfl⟩ | exact ⟨hw.2.1, hw.2.2⟩), by rw [ht]; exact hP, va_K.moved hW.alike hK, hD⟩, hS.F ht⟩) hS.2.2 dX4_serverOf_155
        · skip
          have i_12 : x_11.toInt = 1 := by have h9 := pz_eq c_12; exact h9
          refine lv_aload_n hx hb dX4_serverOf_144 rfl (lv_at hl 0 rfl) ?_
          refine va_get (D := (dC, dI)) (ci := 5) (v := .ref (R 23)) (C := RX4) (T := TX4) (N := 43) hx hb hts (fun _ h => List.mem_cons_of_mem _ (List.mem_append_right _ h)) hown hK hP 0 rfl rfl 23 (by decide) (hts (.fieldLink RX4 56 "FrontDoorModel" "until" "[I") (by decide +kernel)) (fun _ h9 => h9) rfl dX4_serverOf_145 ?_
          refine lv_iload_n hx hb dX4_serverOf_148 rfl (lv_at hl 1 rfl) ?_
          refine va_iald hx hb hK hP 14 13 rfl rfl (vp_in_nI (by omega) (by decide)) dX4_serverOf_149 ?_
          refine lv_topi (fun x_13 ex_13 => ?_)
          replace ex_13 : x_13 = (F 23) (Int32.toNatClampNeg (nI j_1)) := ex_13
          refine lv_goto (tgt := 155) hx hb dX4_serverOf_150 (by decide) ?_
          exact W.iret (v := x_13) hx hb hr (fun t ht hW => ⟨⟨x_13, (I, F), rfl, (by first | exact ⟨rfl, fun k hk => rfl⟩ | exact ⟨hw.2.1, hw.2.2⟩), by rw [ht]; exact hP, va_K.moved hW.alike hK, hD⟩, hS.F ht⟩) hS.2.2 dX4_serverOf_155
      · skip
        subst e_3
        refine lv_tableIn (off := 141) (tgt := 156) hx hb dX4_serverOf_15 (by decide) (by decide) (by decide) (by decide) ?_
        refine lv_aload_n hx hb dX4_serverOf_156 rfl (lv_at hl 0 rfl) ?_
        refine va_get (D := (dC, dI)) (ci := 5) (v := .ref (R 24)) (C := RX4) (T := TX4) (N := 43) hx hb hts (fun _ h => List.mem_cons_of_mem _ (List.mem_append_right _ h)) hown hK hP 0 rfl rfl 24 (by decide) (hts (.fieldLink RX4 59 "FrontDoorModel" "penalty" "[I") (by decide +kernel)) (fun _ h9 => h9) rfl dX4_serverOf_157 ?_
        refine lv_iload_n hx hb dX4_serverOf_160 rfl (lv_at hl 1 rfl) ?_
        refine va_iald hx hb hK hP 15 14 rfl rfl (vp_in_nI (by omega) (by decide)) dX4_serverOf_161 ?_
        refine lv_topi (fun x_14 ex_14 => ?_)
        replace ex_14 : x_14 = (F 24) (Int32.toNatClampNeg (nI j_1)) := ex_14
        exact W.iret (v := x_14) hx hb hr (fun t ht hW => ⟨⟨x_14, (I, F), rfl, (by first | exact ⟨rfl, fun k hk => rfl⟩ | exact ⟨hw.2.1, hw.2.2⟩), by rw [ht]; exact hP, va_K.moved hW.alike hK, hD⟩, hS.F ht⟩) hS.2.2 dX4_serverOf_162
      · skip
        subst e_3
        refine lv_tableIn (off := 148) (tgt := 163) hx hb dX4_serverOf_15 (by decide) (by decide) (by decide) (by decide) ?_
        refine lv_aload_n hx hb dX4_serverOf_163 rfl (lv_at hl 0 rfl) ?_
        refine va_get (D := (dC, dI)) (ci := 5) (v := .ref (R 25)) (C := RX4) (T := TX4) (N := 43) hx hb hts (fun _ h => List.mem_cons_of_mem _ (List.mem_append_right _ h)) hown hK hP 0 rfl rfl 25 (by decide) (hts (.fieldLink RX4 62 "FrontDoorModel" "outs" "[I") (by decide +kernel)) (fun _ h9 => h9) rfl dX4_serverOf_164 ?_
        refine lv_iload_n hx hb dX4_serverOf_167 rfl (lv_at hl 1 rfl) ?_
        refine va_iald hx hb hK hP 16 15 rfl rfl (vp_in_nI (by omega) (by decide)) dX4_serverOf_168 ?_
        refine lv_topi (fun x_15 ex_15 => ?_)
        replace ex_15 : x_15 = (F 25) (Int32.toNatClampNeg (nI j_1)) := ex_15
        exact W.iret (v := x_15) hx hb hr (fun t ht hW => ⟨⟨x_15, (I, F), rfl, (by first | exact ⟨rfl, fun k hk => rfl⟩ | exact ⟨hw.2.1, hw.2.2⟩), by rw [ht]; exact hP, va_K.moved hW.alike hK, hD⟩, hS.F ht⟩) hS.2.2 dX4_serverOf_169
      · skip
        subst e_3
        refine lv_tableIn (off := 155) (tgt := 170) hx hb dX4_serverOf_15 (by decide) (by decide) (by decide) (by decide) ?_
        refine lv_aload_n hx hb dX4_serverOf_170 rfl (lv_at hl 0 rfl) ?_
        refine va_get (D := (dC, dI)) (ci := 5) (v := .ref (R 26)) (C := RX4) (T := TX4) (N := 43) hx hb hts (fun _ h => List.mem_cons_of_mem _ (List.mem_append_right _ h)) hown hK hP 0 rfl rfl 26 (by decide) (hts (.fieldLink RX4 65 "FrontDoorModel" "credit" "[I") (by decide +kernel)) (fun _ h9 => h9) rfl dX4_serverOf_171 ?_
        refine lv_iload_n hx hb dX4_serverOf_174 rfl (lv_at hl 1 rfl) ?_
        refine va_iald hx hb hK hP 17 16 rfl rfl (vp_in_nI (by omega) (by decide)) dX4_serverOf_175 ?_
        refine lv_topi (fun x_16 ex_16 => ?_)
        replace ex_16 : x_16 = (F 26) (Int32.toNatClampNeg (nI j_1)) := ex_16
        refine lv_ldc hx hb hown (hts (.constant RX4 234 (1000000000)) (by decide +kernel)) dX4_serverOf_176 ?_
        refine lv_iadd hx hb dX4_serverOf_178 ?_
        refine lv_topi (fun x_17 ex_17 => ?_)
        exact W.iret (v := x_17) hx hb hr (fun t ht hW => ⟨⟨x_17, (I, F), rfl, (by first | exact ⟨rfl, fun k hk => rfl⟩ | exact ⟨hw.2.1, hw.2.2⟩), by rw [ht]; exact hP, va_K.moved hW.alike hK, hD⟩, hS.F ht⟩) hS.2.2 dX4_serverOf_179
      · skip
        subst e_3
        refine lv_tableIn (off := 165) (tgt := 180) hx hb dX4_serverOf_15 (by decide) (by decide) (by decide) (by decide) ?_
        refine lv_aload_n hx hb dX4_serverOf_180 rfl (lv_at hl 0 rfl) ?_
        refine va_get (D := (dC, dI)) (ci := 5) (v := .ref (R 11)) (C := RX4) (T := TX4) (N := 43) hx hb hts (fun _ h => List.mem_cons_of_mem _ (List.mem_append_right _ h)) hown hK hP 0 rfl rfl 11 (by decide) (hts (.fieldLink RX4 20 "FrontDoorModel" "weight" "[I") (by decide +kernel)) (fun _ h9 => h9) rfl dX4_serverOf_181 ?_
        refine lv_iload_n hx hb dX4_serverOf_184 rfl (lv_at hl 1 rfl) ?_
        refine va_iald hx hb hK hP 2 1 rfl rfl (vp_in_nI (by omega) (by decide)) dX4_serverOf_185 ?_
        refine lv_topi (fun x_18 ex_18 => ?_)
        replace ex_18 : x_18 = (F 11) (Int32.toNatClampNeg (nI j_1)) := ex_18
        exact W.iret (v := x_18) hx hb hr (fun t ht hW => ⟨⟨x_18, (I, F), rfl, (by first | exact ⟨rfl, fun k hk => rfl⟩ | exact ⟨hw.2.1, hw.2.2⟩), by rw [ht]; exact hP, va_K.moved hW.alike hK, hD⟩, hS.F ht⟩) hS.2.2 dX4_serverOf_186
      · skip
        subst e_3
        refine lv_tableIn (off := 172) (tgt := 187) hx hb dX4_serverOf_15 (by decide) (by decide) (by decide) (by decide) ?_
        refine lv_aload_n hx hb dX4_serverOf_187 rfl (lv_at hl 0 rfl) ?_
        refine va_get (D := (dC, dI)) (ci := 5) (v := .ref (R 12)) (C := RX4) (T := TX4) (N := 43) hx hb hts (fun _ h => List.mem_cons_of_mem _ (List.mem_append_right _ h)) hown hK hP 0 rfl rfl 12 (by decide) (hts (.fieldLink RX4 23 "FrontDoorModel" "zone" "[I") (by decide +kernel)) (fun _ h9 => h9) rfl dX4_serverOf_188 ?_
        refine lv_iload_n hx hb dX4_serverOf_191 rfl (lv_at hl 1 rfl) ?_
        refine va_iald hx hb hK hP 3 2 rfl rfl (vp_in_nI (by omega) (by decide)) dX4_serverOf_192 ?_
        refine lv_topi (fun x_19 ex_19 => ?_)
        replace ex_19 : x_19 = (F 12) (Int32.toNatClampNeg (nI j_1)) := ex_19
        exact W.iret (v := x_19) hx hb hr (fun t ht hW => ⟨⟨x_19, (I, F), rfl, (by first | exact ⟨rfl, fun k hk => rfl⟩ | exact ⟨hw.2.1, hw.2.2⟩), by rw [ht]; exact hP, va_K.moved hW.alike hK, hD⟩, hS.F ht⟩) hS.2.2 dX4_serverOf_193
      · skip
        subst e_3
        refine lv_tableIn (off := 179) (tgt := 194) hx hb dX4_serverOf_15 (by decide) (by decide) (by decide) (by decide) ?_
        refine lv_aload_n hx hb dX4_serverOf_194 rfl (lv_at hl 0 rfl) ?_
        refine va_get (D := (dC, dI)) (ci := 5) (v := .ref (R 13)) (C := RX4) (T := TX4) (N := 43) hx hb hts (fun _ h => List.mem_cons_of_mem _ (List.mem_append_right _ h)) hown hK hP 0 rfl rfl 13 (by decide) (hts (.fieldLink RX4 26 "FrontDoorModel" "room" "[I") (by decide +kernel)) (fun _ h9 => h9) rfl dX4_serverOf_195 ?_
        refine lv_iload_n hx hb dX4_serverOf_198 rfl (lv_at hl 1 rfl) ?_
        refine va_iald hx hb hK hP 4 3 rfl rfl (vp_in_nI (by omega) (by decide)) dX4_serverOf_199 ?_
        refine lv_topi (fun x_20 ex_20 => ?_)
        replace ex_20 : x_20 = (F 13) (Int32.toNatClampNeg (nI j_1)) := ex_20
        exact W.iret (v := x_20) hx hb hr (fun t ht hW => ⟨⟨x_20, (I, F), rfl, (by first | exact ⟨rfl, fun k hk => rfl⟩ | exact ⟨hw.2.1, hw.2.2⟩), by rw [ht]; exact hP, va_K.moved hW.alike hK, hD⟩, hS.F ht⟩) hS.2.2 dX4_serverOf_200
      · skip
        subst e_3
        refine lv_tableIn (off := 186) (tgt := 201) hx hb dX4_serverOf_15 (by decide) (by decide) (by decide) (by decide) ?_
        refine lv_aload_n hx hb dX4_serverOf_201 rfl (lv_at hl 0 rfl) ?_
        refine va_get (D := (dC, dI)) (ci := 5) (v := .ref (R 14)) (C := RX4) (T := TX4) (N := 43) hx hb hts (fun _ h => List.mem_cons_of_mem _ (List.mem_append_right _ h)) hown hK hP 0 rfl rfl 14 (by decide) (hts (.fieldLink RX4 29 "FrontDoorModel" "pace" "[I") (by decide +kernel)) (fun _ h9 => h9) rfl dX4_serverOf_202 ?_
        refine lv_iload_n hx hb dX4_serverOf_205 rfl (lv_at hl 1 rfl) ?_
        refine va_iald hx hb hK hP 5 4 rfl rfl (vp_in_nI (by omega) (by decide)) dX4_serverOf_206 ?_
        refine lv_topi (fun x_21 ex_21 => ?_)
        replace ex_21 : x_21 = (F 14) (Int32.toNatClampNeg (nI j_1)) := ex_21
        exact W.iret (v := x_21) hx hb hr (fun t ht hW => ⟨⟨x_21, (I, F), rfl, (by first | exact ⟨rfl, fun k hk => rfl⟩ | exact ⟨hw.2.1, hw.2.2⟩), by rw [ht]; exact hP, va_K.moved hW.alike hK, hD⟩, hS.F ht⟩) hS.2.2 dX4_serverOf_207
      · skip
        subst e_3
        refine lv_tableIn (off := 193) (tgt := 208) hx hb dX4_serverOf_15 (by decide) (by decide) (by decide) (by decide) ?_
        refine lv_aload_n hx hb dX4_serverOf_208 rfl (lv_at hl 0 rfl) ?_
        refine va_get (D := (dC, dI)) (ci := 5) (v := .ref (R 15)) (C := RX4) (T := TX4) (N := 43) hx hb hts (fun _ h => List.mem_cons_of_mem _ (List.mem_append_right _ h)) hown hK hP 0 rfl rfl 15 (by decide) (hts (.fieldLink RX4 32 "FrontDoorModel" "breaks" "[I") (by decide +kernel)) (fun _ h9 => h9) rfl dX4_serverOf_209 ?_
        refine lv_iload_n hx hb dX4_serverOf_212 rfl (lv_at hl 1 rfl) ?_
        refine va_iald hx hb hK hP 6 5 rfl rfl (vp_in_nI (by omega) (by decide)) dX4_serverOf_213 ?_
        refine lv_topi (fun x_22 ex_22 => ?_)
        replace ex_22 : x_22 = (F 15) (Int32.toNatClampNeg (nI j_1)) := ex_22
        exact W.iret (v := x_22) hx hb hr (fun t ht hW => ⟨⟨x_22, (I, F), rfl, (by first | exact ⟨rfl, fun k hk => rfl⟩ | exact ⟨hw.2.1, hw.2.2⟩), by rw [ht]; exact hP, va_K.moved hW.alike hK, hD⟩, hS.F ht⟩) hS.2.2 dX4_serverOf_214
      · skip
        subst e_3
        refine lv_tableIn (off := 200) (tgt := 215) hx hb dX4_serverOf_15 (by decide) (by decide) (by decide) (by decide) ?_
        refine lv_aload_n hx hb dX4_serverOf_215 rfl (lv_at hl 0 rfl) ?_
        refine va_get (D := (dC, dI)) (ci := 5) (v := .ref (R 16)) (C := RX4) (T := TX4) (N := 43) hx hb hts (fun _ h => List.mem_cons_of_mem _ (List.mem_append_right _ h)) hown hK hP 0 rfl rfl 16 (by decide) (hts (.fieldLink RX4 35 "FrontDoorModel" "mute" "[I") (by decide +kernel)) (fun _ h9 => h9) rfl dX4_serverOf_216 ?_
        refine lv_iload_n hx hb dX4_serverOf_219 rfl (lv_at hl 1 rfl) ?_
        refine va_iald hx hb hK hP 7 6 rfl rfl (vp_in_nI (by omega) (by decide)) dX4_serverOf_220 ?_
        refine lv_topi (fun x_23 ex_23 => ?_)
        replace ex_23 : x_23 = (F 16) (Int32.toNatClampNeg (nI j_1)) := ex_23
        exact W.iret (v := x_23) hx hb hr (fun t ht hW => ⟨⟨x_23, (I, F), rfl, (by first | exact ⟨rfl, fun k hk => rfl⟩ | exact ⟨hw.2.1, hw.2.2⟩), by rw [ht]; exact hP, va_K.moved hW.alike hK, hD⟩, hS.F ht⟩) hS.2.2 dX4_serverOf_221
  · skip
    have hr9 : r_1 = 0 := hr9
    subst hr9
    have f_1_0 : (a1.toInt < 0 ∨ (nI ns).toInt ≤ a1.toInt) := pz_id f_1_0
    refine lv_if_ne (tgt := 14) hx hb dX4_serverOf_5 (by decide) (fun c_24 => absurd c_24 (by decide)) (fun c_24 => ?_)
    refine lv_aload_n hx hb dX4_serverOf_8 rfl (lv_at hl 0 rfl) ?_
    refine lv_iconst (v := (-1)) hx hb dX4_serverOf_9 (by decide) ?_
    have hPc := hP.sub (ws' := (gW h0 R C I F)) [0, 1, 2, 3, 4, 5, 6, 7, 8, 9, 10, 11, 12, 13, 14, 15, 16, 17, 18, 19, 20, 21, 22, 23, 24, 25, 26, 27, 28, 29, 30, 31, 32] rfl
    have hDc := hD.sub (ws' := (gW h0 R C I F)) [0, 1, 2, 3, 4, 5, 6, 7, 8, 9, 10, 11, 12, 13, 14, 15, 16, 17, 18, 19, 20, 21, 22, 23, 24, 25, 26, 27, 28, 29, 30, 31, 32] (by decide) rfl
    have hKc := hK.sub (tys' := (gT C)) [0, 1, 2, 3, 4, 5, 6, 7, 8, 9, 10, 11, 12, 13, 14, 15, 16, 17, 18, 19, 20, 21, 22, 23, 24, 25, 26, 27, 28, 29, 30, 31] rfl
    have hFc := va_free (wc := (gW h0 R C I F)) hD hS hA [0, 1, 2, 3, 4, 5, 6, 7, 8, 9, 10, 11, 12, 13, 14, 15, 16, 17, 18, 19, 20, 21, 22, 23, 24, 25, 26, 27, 28, 29, 30, 31, 32] rfl
    refine va_calli (va_runV (As := [.int (-1)]) (rest := []) ⟨hx, hb, hml, hown, hts⟩ (m_X4_refuse1 l dC dI h0 R C I F H.size) (cwV 1 hts gX4_serverOf_X4_refuse rfl rfl rfl (by decide +kernel) ⟨Nat.le_of_ble_eq_true rfl, Nat.le_of_ble_eq_true rfl⟩) ⟨pz_blind, va_recv hKc hPc (ci := 5) (q0 := 0) rfl rfl, fun U hU hW => ⟨rfl, pz_at hPc hKc hDc hU hW⟩⟩ rfl rfl hl.1 rfl (lv_room (Nat.le_of_ble_eq_true rfl)) dX4_serverOf_10 ⟨Nat.le_of_ble_eq_true rfl, Nat.le_of_ble_eq_true rfl⟩) hS (fun q _ h => hFc q h) hFc (fun r_25 u t H locs ht hvm hw hB hz1 hk1 hS => ?_)
    obtain ⟨I_25, F_25⟩ := u
    obtain ⟨hP1, hK1, hD1⟩ := hB
    rw [ht] at hP1
    try dsimp only at hw
    have hP := hP1
    have hD := hD1.weaken (fun _ _ _ h9 => hFc _ h9)
    have hP : va_P (dC, dI) vwCl (gW h0 R C I_25 F_25) H := hP
    have hD : va_D A (gW h0 R C I_25 F_25) := hD
    have hr8 : r_25 = (-1) := hw.1
    subst hr8
    exact W.iret (v := (-1)) hx hb hr (fun t ht hW => ⟨⟨(-1), (I_25, F_25), rfl, (by first | exact ⟨rfl, fun k hk => rfl⟩ | exact ⟨hw.2.1, hw.2.2⟩), by rw [ht]; exact hP, va_K.moved hW.alike hK, hD⟩, hS.F ht⟩) hS.2.2 dX4_serverOf_13

set_option maxHeartbeats 40000000 in
set_option maxRecDepth 100000 in
theorem m_X4_callOf (l : Launch) (dC : Nat → ClassId) (dI : Nat → Nat → Nat) (h0 : Nat) (R : Nat → Nat) (C : Nat → ClassId) (I : Nat → Int32) (F : Nat → Nat → Int32) (nc : Nat) (a1 : Int32) (a2 : Int32) (sz : Nat) (hnc : I 3 = nI nc) (hbc : nc ≤ 200) : Met l yX4_callOf wsX4_callOf ({ frames := 2, cells := 0, slots := 0, locals := 42 }) (va_Pc [.ref h0, .int a1, .int a2] (pzPre (dC, dI) vwCl (gW h0 R C I F) (gT C) sz)) (va_Qi (fun (r : Int32) (u : (Nat → Int32) × (Nat → Nat → Int32)) => u.1 = I ∧ ∀ k, k ≠ 0 → u.2 k = F k) (fun (u : (Nat → Int32) × (Nat → Nat → Int32)) (t : State) => va_P (dC, dI) vwCl (gW h0 R C u.1 u.2) t.heap ∧ va_K (dC, dI) vwCl (gT C) t ∧ va_D (va_A (gW h0 R C I F) sz) (gW h0 R C u.1 u.2)) (va_A (gW h0 R C I F) sz)) 0 0 (va_A (gW h0 R C I F) sz) := by
  refine Met.ofW (cc := cX4_callOf) (maxL := 3) (ret := (some .int)) (by decide) rfl ?_
  intro p e s m args below meth c s₁ B hml hv
  obtain ⟨rfl, hsz, hP, hK, hD0⟩ := hv
  have hx := B.exec
  have hb := B.bytes
  have hr := B.returns
  have hts := atoms_spec (ws := wsX4_callOf) B.pre
  have hown : s.vm.findClass RX4 = some m.cls := findClass_of_methodNamed B.named
  have hlocks := B.notSynchronized
  subst hsz
  have hD := hD0.self (sz := s.heap.size)
  generalize hAe : va_A (gW h0 R C I F) s.heap.size = A at hD ⊢
  have hA : ∀ q : Nat, s.heap.size ≤ q → A q := fun q h => by rw [← hAe]; exact Or.inr h
  have hS : va_S A s.heap s.heap [] := va_S.rf
  have hP : va_P (dC, dI) vwCl (gW h0 R C I F) s.heap := hP
  have hncI : (nI nc).toInt = (nc : Int) := nI_toInt (by omega)
  have hl := lv_entry ([.ref h0, .int a1, .int a2]) (n := 3) (Nat.le_of_ble_eq_true rfl)
  rw [lg_entry_eq]
  generalize (lg_sl ([.ref h0, .int a1, .int a2]) ++ List.replicate (3 - (lg_sl ([.ref h0, .int a1, .int a2])).length) Slot.unset).toArray = ls at hl ⊢
  have hl : lv_has ls 3 [(0, .ref h0), (1, .int a1), (2, .int a2)] := hl
  refine lv_aload_n hx hb dX4_callOf_0 rfl (lv_at hl 0 rfl) ?_
  refine lv_iload_n hx hb dX4_callOf_1 rfl (lv_at hl 1 rfl) ?_
  have hPc := hP.sub (ws' := (gW h0 R C I F)) [0, 1, 2, 3, 4, 5, 6, 7, 8, 9, 10, 11, 12, 13, 14, 15, 16, 17, 18, 19, 20, 21, 22, 23, 24, 25, 26, 27, 28, 29, 30, 31, 32] rfl
  have hDc := hD.sub (ws' := (gW h0 R C I F)) [0, 1, 2, 3, 4, 5, 6, 7, 8, 9, 10, 11, 12, 13, 14, 15, 16, 17, 18, 19, 20, 21, 22, 23, 24, 25, 26, 27, 28, 29, 30, 31, 32] (by decide) rfl
  have hKc := hK.sub (tys' := (gT C)) [0, 1, 2, 3, 4, 5, 6, 7, 8, 9, 10, 11, 12, 13, 14, 15, 16, 17, 18, 19, 20, 21, 22, 23, 24, 25, 26, 27, 28, 29, 30, 31] rfl
  have hFc := pz_f hA hS
  refine va_calli (va_runV (As := [.int a1]) (rest := []) ⟨hx, hb, hml, hown, hts⟩ (m_X4_isCall l dC dI h0 R C I F nc a1 s.heap.size hnc hbc) (cwV 1 hts gX4_callOf_X4_isCall rfl rfl rfl (by decide +kernel) ⟨Nat.le_of_ble_eq_true rfl, Nat.le_of_ble_eq_true rfl⟩) ⟨pz_blind, va_recv hKc hPc (ci := 5) (q0 := 0) rfl rfl, fun U hU hW => ⟨rfl, pz_at hPc hKc hDc hU hW⟩⟩ rfl rfl hl.1 rfl (lv_room (Nat.le_of_ble_eq_true rfl)) dX4_callOf_2 ⟨Nat.le_of_ble_eq_true rfl, Nat.le_of_ble_eq_true rfl⟩) hS (fun q _ h => hFc q h) hFc (fun r_1 u t H locs ht hvm hw hB hz1 hk1 hS => ?_)
  have hP := pz_keep hP hk1
  rcases hw with ⟨f_1_0, f_1_1, hr9⟩ | ⟨f_1_0, hr9⟩
  · skip
    have hr9 : r_1 = 1 := hr9
    subst hr9
    have f_1_0 : 0 ≤ a1.toInt := pz_id f_1_0
    have f_1_1 : a1.toInt < (nI nc).toInt := pz_id f_1_1
    obtain ⟨j_1, hj_1, ej_1⟩ : ∃ j : Nat, j < nc ∧ a1 = nI j := pz_ixof f_1_0 f_1_1 (by omega)
    subst ej_1
    refine lv_if_ne (tgt := 14) hx hb dX4_callOf_5 (by decide) (fun c_2 => ?_) (fun c_2 => absurd c_2 (by decide))
    refine lv_iload_n hx hb dX4_callOf_14 rfl (lv_at hl 2 rfl) ?_
    by_cases t_3 : a2.toInt < 0 ∨ 10 < a2.toInt
    · skip
      refine lv_tableOut (tgt := 211) hx hb dX4_callOf_15 t_3 (by decide) ?_
      refine lv_aload_n hx hb dX4_callOf_211 rfl (lv_at hl 0 rfl) ?_
      refine lv_bipush (v := (-2)) hx hb dX4_callOf_212 (by decide) ?_
      have hPc := hP.sub (ws' := (gW h0 R C I F)) [0, 1, 2, 3, 4, 5, 6, 7, 8, 9, 10, 11, 12, 13, 14, 15, 16, 17, 18, 19, 20, 21, 22, 23, 24, 25, 26, 27, 28, 29, 30, 31, 32] rfl
      have hDc := hD.sub (ws' := (gW h0 R C I F)) [0, 1, 2, 3, 4, 5, 6, 7, 8, 9, 10, 11, 12, 13, 14, 15, 16, 17, 18, 19, 20, 21, 22, 23, 24, 25, 26, 27, 28, 29, 30, 31, 32] (by decide) rfl
      have hKc := hK.sub (tys' := (gT C)) [0, 1, 2, 3, 4, 5, 6, 7, 8, 9, 10, 11, 12, 13, 14, 15, 16, 17, 18, 19, 20, 21, 22, 23, 24, 25, 26, 27, 28, 29, 30, 31] rfl
      have hFc := va_free (wc := (gW h0 R C I F)) hD hS hA [0, 1, 2, 3, 4, 5, 6, 7, 8, 9, 10, 11, 12, 13, 14, 15, 16, 17, 18, 19, 20, 21, 22, 23, 24, 25, 26, 27, 28, 29, 30, 31, 32] rfl
      refine va_calli (va_runV (As := [.int (-2)]) (rest := []) ⟨hx, hb, hml, hown, hts⟩ (m_X4_refuse2 l dC dI h0 R C I F H.size) (cwV 1 hts gX4_callOf_X4_refuse rfl rfl rfl (by decide +kernel) ⟨Nat.le_of_ble_eq_true rfl, Nat.le_of_ble_eq_true rfl⟩) ⟨pz_blind, va_recv hKc hPc (ci := 5) (q0 := 0) rfl rfl, fun U hU hW => ⟨rfl, pz_at hPc hKc hDc hU hW⟩⟩ rfl rfl hl.1 rfl (lv_room (Nat.le_of_ble_eq_true rfl)) dX4_callOf_214 ⟨Nat.le_of_ble_eq_true rfl, Nat.le_of_ble_eq_true rfl⟩) hS (fun q _ h => hFc q h) hFc (fun r_4 u t H locs ht hvm hw hB hz1 hk1 hS => ?_)
      obtain ⟨I_4, F_4⟩ := u
      obtain ⟨hP1, hK1, hD1⟩ := hB
      rw [ht] at hP1
      try dsimp only at hw
      have hP := hP1
      have hD := hD1.weaken (fun _ _ _ h9 => hFc _ h9)
      have hP : va_P (dC, dI) vwCl (gW h0 R C I_4 F_4) H := hP
      have hD : va_D A (gW h0 R C I_4 F_4) := hD
      have hr8 : r_4 = (-2) := hw.1
      subst hr8
      exact W.iret (v := (-2)) hx hb hr (fun t ht hW => ⟨⟨(-2), (I_4, F_4), rfl, (by first | exact ⟨rfl, fun k hk => rfl⟩ | exact ⟨hw.2.1, hw.2.2⟩), by rw [ht]; exact hP, va_K.moved hW.alike hK, hD⟩, hS.F ht⟩) hS.2.2 dX4_callOf_217
    · skip
      rcases pz_cases11 t_3 with e_3 | e_3 | e_3 | e_3 | e_3 | e_3 | e_3 | e_3 | e_3 | e_3 | e_3
      · skip
        subst e_3
        refine lv_tableIn (off := 57) (tgt := 72) hx hb dX4_callOf_15 (by decide) (by decide) (by decide) (by decide) ?_
        refine lv_aload_n hx hb dX4_callOf_72 rfl (lv_at hl 0 rfl) ?_
        refine va_get (D := (dC, dI)) (ci := 5) (v := .ref (R 30)) (C := RX4) (T := TX4) (N := 43) hx hb hts (fun _ h => List.mem_cons_of_mem _ (List.mem_append_right _ h)) hown hK hP 0 rfl rfl 30 (by decide) (hts (.fieldLink RX4 77 "FrontDoorModel" "state" "[I") (by decide +kernel)) (fun _ h9 => h9) rfl dX4_callOf_73 ?_
        refine lv_iload_n hx hb dX4_callOf_76 rfl (lv_at hl 1 rfl) ?_
        refine va_iald hx hb hK hP 21 20 rfl rfl (vp_in_nI (by omega) (by decide)) dX4_callOf_77 ?_
        refine lv_topi (fun x_5 ex_5 => ?_)
        replace ex_5 : x_5 = (F 30) (Int32.toNatClampNeg (nI j_1)) := ex_5
        exact W.iret (v := x_5) hx hb hr (fun t ht hW => ⟨⟨x_5, (I, F), rfl, (by first | exact ⟨rfl, fun k hk => rfl⟩ | exact ⟨hw.2.1, hw.2.2⟩), by rw [ht]; exact hP, va_K.moved hW.alike hK, hD⟩, hS.F ht⟩) hS.2.2 dX4_callOf_78
      · skip
        subst e_3
        refine lv_tableIn (off := 64) (tgt := 79) hx hb dX4_callOf_15 (by decide) (by decide) (by decide) (by decide) ?_
        refine lv_aload_n hx hb dX4_callOf_79 rfl (lv_at hl 0 rfl) ?_
        refine va_get (D := (dC, dI)) (ci := 5) (v := .ref (R 27)) (C := RX4) (T := TX4) (N := 43) hx hb hts (fun _ h => List.mem_cons_of_mem _ (List.mem_append_right _ h)) hown hK hP 0 rfl rfl 27 (by decide) (hts (.fieldLink RX4 68 "FrontDoorModel" "key" "[I") (by decide +kernel)) (fun _ h9 => h9) rfl dX4_callOf_80 ?_
        refine lv_iload_n hx hb dX4_callOf_83 rfl (lv_at hl 1 rfl) ?_
        refine va_iald hx hb hK hP 18 17 rfl rfl (vp_in_nI (by omega) (by decide)) dX4_callOf_84 ?_
        refine lv_topi (fun x_6 ex_6 => ?_)
        replace ex_6 : x_6 = (F 27) (Int32.toNatClampNeg (nI j_1)) := ex_6
        exact W.iret (v := x_6) hx hb hr (fun t ht hW => ⟨⟨x_6, (I, F), rfl, (by first | exact ⟨rfl, fun k hk => rfl⟩ | exact ⟨hw.2.1, hw.2.2⟩), by rw [ht]; exact hP, va_K.moved hW.alike hK, hD⟩, hS.F ht⟩) hS.2.2 dX4_callOf_85
      · skip
        subst e_3
        refine lv_tableIn (off := 71) (tgt := 86) hx hb dX4_callOf_15 (by decide) (by decide) (by decide) (by decide) ?_
        refine lv_aload_n hx hb dX4_callOf_86 rfl (lv_at hl 0 rfl) ?_
        refine va_get (D := (dC, dI)) (ci := 5) (v := .ref (R 28)) (C := RX4) (T := TX4) (N := 43) hx hb hts (fun _ h => List.mem_cons_of_mem _ (List.mem_append_right _ h)) hown hK hP 0 rfl rfl 28 (by decide) (hts (.fieldLink RX4 71 "FrontDoorModel" "grade" "[I") (by decide +kernel)) (fun _ h9 => h9) rfl dX4_callOf_87 ?_
        refine lv_iload_n hx hb dX4_callOf_90 rfl (lv_at hl 1 rfl) ?_
        refine va_iald hx hb hK hP 19 18 rfl rfl (vp_in_nI (by omega) (by decide)) dX4_callOf_91 ?_
        refine lv_topi (fun x_7 ex_7 => ?_)
        replace ex_7 : x_7 = (F 28) (Int32.toNatClampNeg (nI j_1)) := ex_7
        exact W.iret (v := x_7) hx hb hr (fun t ht hW => ⟨⟨x_7, (I, F), rfl, (by first | exact ⟨rfl, fun k hk => rfl⟩ | exact ⟨hw.2.1, hw.2.2⟩), by rw [ht]; exact hP, va_K.moved hW.alike hK, hD⟩, hS.F ht⟩) hS.2.2 dX4_callOf_92
      · skip
        subst e_3
        refine lv_tableIn (off := 78) (tgt := 93) hx hb dX4_callOf_15 (by decide) (by decide) (by decide) (by decide) ?_
        refine lv_aload_n hx hb dX4_callOf_93 rfl (lv_at hl 0 rfl) ?_
        refine va_get (D := (dC, dI)) (ci := 5) (v := .ref (R 29)) (C := RX4) (T := TX4) (N := 43) hx hb hts (fun _ h => List.mem_cons_of_mem _ (List.mem_append_right _ h)) hown hK hP 0 rfl rfl 29 (by decide) (hts (.fieldLink RX4 74 "FrontDoorModel" "due" "[I") (by decide +kernel)) (fun _ h9 => h9) rfl dX4_callOf_94 ?_
        refine lv_iload_n hx hb dX4_callOf_97 rfl (lv_at hl 1 rfl) ?_
        refine va_iald hx hb hK hP 20 19 rfl rfl (vp_in_nI (by omega) (by decide)) dX4_callOf_98 ?_
        refine lv_topi (fun x_8 ex_8 => ?_)
        replace ex_8 : x_8 = (F 29) (Int32.toNatClampNeg (nI j_1)) := ex_8
        exact W.iret (v := x_8) hx hb hr (fun t ht hW => ⟨⟨x_8, (I, F), rfl, (by first | exact ⟨rfl, fun k hk => rfl⟩ | exact ⟨hw.2.1, hw.2.2⟩), by rw [ht]; exact hP, va_K.moved hW.alike hK, hD⟩, hS.F ht⟩) hS.2.2 dX4_callOf_99
      · skip
        subst e_3
        refine lv_tableIn (off := 85) (tgt := 100) hx hb dX4_callOf_15 (by decide) (by decide) (by decide) (by decide) ?_
        refine lv_aload_n hx hb dX4_callOf_100 rfl (lv_at hl 0 rfl) ?_
        refine va_get (D := (dC, dI)) (ci := 5) (v := .ref (R 36)) (C := RX4) (T := TX4) (N := 43) hx hb hts (fun _ h => List.mem_cons_of_mem _ (List.mem_append_right _ h)) hown hK hP 0 rfl rfl 36 (by decide) (hts (.fieldLink RX4 95 "FrontDoorModel" "safe" "[Z") (by decide +kernel)) (fun _ h9 => h9) rfl dX4_callOf_101 ?_
        refine lv_iload_n hx hb dX4_callOf_104 rfl (lv_at hl 1 rfl) ?_
        refine va_zald hx hb hK hP 27 26 rfl rfl (vp_in_nI (by omega) (by decide)) dX4_callOf_105 ?_
        refine lv_topi (fun x_9 ex_9 => ?_)
        replace ex_9 : x_9 = (F 36) (Int32.toNatClampNeg (nI j_1)) := ex_9
        refine lv_if_eq (tgt := 113) hx hb dX4_callOf_106 (by decide) (fun c_10 => ?_) (fun c_10 => ?_)
        · skip
          have i_10 : x_9.toInt = 0 := by have h9 := pz_eq c_10; exact h9
          refine lv_iconst (v := 0) hx hb dX4_callOf_113 (by decide) ?_
          exact W.iret (v := 0) hx hb hr (fun t ht hW => ⟨⟨0, (I, F), rfl, (by first | exact ⟨rfl, fun k hk => rfl⟩ | exact ⟨hw.2.1, hw.2.2⟩), by rw [ht]; exact hP, va_K.moved hW.alike hK, hD⟩, hS.F ht⟩) hS.2.2 dX4_callOf_114
        · skip
          have i_10 : ¬ x_9.toInt = 0 := by have h9 := pz_neq c_10; exact h9
          refine lv_iconst (v := 1) hx hb dX4_callOf_109 (by decide) ?_
          refine lv_goto (tgt := 114) hx hb dX4_callOf_110 (by decide) ?_
          exact W.iret (v := 1) hx hb hr (fun t ht hW => ⟨⟨1, (I, F), rfl, (by first | exact ⟨rfl, fun k hk => rfl⟩ | exact ⟨hw.2.1, hw.2.2⟩), by rw [ht]; exact hP, va_K.moved hW.alike hK, hD⟩, hS.F ht⟩) hS.2.2 dX4_callOf_114
      · skip
        subst e_3
        refine lv_tableIn (off := 100) (tgt := 115) hx hb dX4_callOf_15 (by decide) (by decide) (by decide) (by decide) ?_
        refine lv_aload_n hx hb dX4_callOf_115 rfl (lv_at hl 0 rfl) ?_
        refine va_get (D := (dC, dI)) (ci := 5) (v := .ref (R 31)) (C := RX4) (T := TX4) (N := 43) hx hb hts (fun _ h => List.mem_cons_of_mem _ (List.mem_append_right _ h)) hown hK hP 0 rfl rfl 31 (by decide) (hts (.fieldLink RX4 80 "FrontDoorModel" "asks" "[I") (by decide +kernel)) (fun _ h9 => h9) rfl dX4_callOf_116 ?_
        refine lv_iload_n hx hb dX4_callOf_119 rfl (lv_at hl 1 rfl) ?_
        refine va_iald hx hb hK hP 22 21 rfl rfl (vp_in_nI (by omega) (by decide)) dX4_callOf_120 ?_
        refine lv_topi (fun x_11 ex_11 => ?_)
        replace ex_11 : x_11 = (F 31) (Int32.toNatClampNeg (nI j_1)) := ex_11
        exact W.iret (v := x_11) hx hb hr (fun t ht hW => ⟨⟨x_11, (I, F), rfl, (by first | exact ⟨rfl, fun k hk => rfl⟩ | exact ⟨hw.2.1, hw.2.2⟩), by rw [ht]; exact hP, va_K.moved hW.alike hK, hD⟩, hS.F ht⟩) hS.2.2 dX4_callOf_121
      · skip
        subst e_3
        refine lv_tableIn (off := 107) (tgt := 122) hx hb dX4_callOf_15 (by decide) (by decide) (by decide) (by decide) ?_
        refine lv_aload_n hx hb dX4_callOf_122 rfl (lv_at hl 0 rfl) ?_
        refine va_get (D := (dC, dI)) (ci := 5) (v := .ref (R 30)) (C := RX4) (T := TX4) (N := 43) hx hb hts (fun _ h => List.mem_cons_of_mem _ (List.mem_append_right _ h)) hown hK hP 0 rfl rfl 30 (by decide) (hts (.fieldLink RX4 77 "FrontDoorModel" "state" "[I") (by decide +kernel)) (fun _ h9 => h9) rfl dX4_callOf_123 ?_
        refine lv_iload_n hx hb dX4_callOf_126 rfl (lv_at hl 1 rfl) ?_
        refine va_iald hx hb hK hP 21 20 rfl rfl (vp_in_nI (by omega) (by decide)) dX4_callOf_127 ?_
        refine lv_topi (fun x_12 ex_12 => ?_)
        replace ex_12 : x_12 = (F 30) (Int32.toNatClampNeg (nI j_1)) := ex_12
        refine lv_iconst (v := 2) hx hb dX4_callOf_128 (by decide) ?_
        refine lv_icmp_ne (tgt := 141) hx hb dX4_callOf_129 (by decide) (fun c_13 => ?_) (fun c_13 => ?_)
        · skip
          have i_13 : ¬ x_12.toInt = 2 := by have h9 := pz_neq c_13; exact h9
          refine lv_aload_n hx hb dX4_callOf_141 rfl (lv_at hl 0 rfl) ?_
          refine va_get (D := (dC, dI)) (ci := 5) (v := .ref (R 31)) (C := RX4) (T := TX4) (N := 43) hx hb hts (fun _ h => List.mem_cons_of_mem _ (List.mem_append_right _ h)) hown hK hP 0 rfl rfl 31 (by decide) (hts (.fieldLink RX4 80 "FrontDoorModel" "asks" "[I") (by decide +kernel)) (fun _ h9 => h9) rfl dX4_callOf_142 ?_
          refine lv_iload_n hx hb dX4_callOf_145 rfl (lv_at hl 1 rfl) ?_
          refine va_iald hx hb hK hP 22 21 rfl rfl (vp_in_nI (by omega) (by decide)) dX4_callOf_146 ?_
          refine lv_topi (fun x_14 ex_14 => ?_)
          replace ex_14 : x_14 = (F 31) (Int32.toNatClampNeg (nI j_1)) := ex_14
          refine lv_if_le (tgt := 161) hx hb dX4_callOf_147 (by decide) (fun c_15 => ?_) (fun c_15 => ?_)
          · skip
            have i_15 : x_14.toInt ≤ 0 := by have h9 := pz_le c_15; exact h9
            refine lv_bipush (v := (-9)) hx hb dX4_callOf_161 (by decide) ?_
            exact W.iret (v := (-9)) hx hb hr (fun t ht hW => ⟨⟨(-9), (I, F), rfl, (by first | exact ⟨rfl, fun k hk => rfl⟩ | exact ⟨hw.2.1, hw.2.2⟩), by rw [ht]; exact hP, va_K.moved hW.alike hK, hD⟩, hS.F ht⟩) hS.2.2 dX4_callOf_163
          · skip
            have i_15 : 0 < x_14.toInt := by have h9 := pz_nle c_15; exact h9
            refine lv_aload_n hx hb dX4_callOf_150 rfl (lv_at hl 0 rfl) ?_
            refine va_get (D := (dC, dI)) (ci := 5) (v := .ref (R 37)) (C := RX4) (T := TX4) (N := 43) hx hb hts (fun _ h => List.mem_cons_of_mem _ (List.mem_append_right _ h)) hown hK hP 0 rfl rfl 37 (by decide) (hts (.fieldLink RX4 99 "FrontDoorModel" "at" "[I") (by decide +kernel)) (fun _ h9 => h9) rfl dX4_callOf_151 ?_
            refine lv_iconst (v := 2) hx hb dX4_callOf_154 (by decide) ?_
            refine lv_iload_n hx hb dX4_callOf_155 rfl (lv_at hl 1 rfl) ?_
            refine lv_imul hx hb dX4_callOf_156 ?_
            refine lv_topi (fun x_16 ex_16 => ?_)
            obtain rfl : x_16 = (nI (2 * j_1)) := ex_16.trans (pk_mul 2 j_1)
            refine va_iald hx hb hK hP 28 27 rfl rfl (vp_in_nI (by omega) (by decide)) dX4_callOf_157 ?_
            refine lv_topi (fun x_17 ex_17 => ?_)
            replace ex_17 : x_17 = (F 37) (Int32.toNatClampNeg (nI (2 * j_1))) := ex_17
            refine lv_goto (tgt := 163) hx hb dX4_callOf_158 (by decide) ?_
            exact W.iret (v := x_17) hx hb hr (fun t ht hW => ⟨⟨x_17, (I, F), rfl, (by first | exact ⟨rfl, fun k hk => rfl⟩ | exact ⟨hw.2.1, hw.2.2⟩), by rw [ht]; exact hP, va_K.moved hW.alike hK, hD⟩, hS.F ht⟩) hS.2.2 dX4_callOf_163
        · skip
          have i_13 : x_12.toInt = 2 := by have h9 := pz_eq c_13; exact h9
          refine lv_aload_n hx hb dX4_callOf_132 rfl (lv_at hl 0 rfl) ?_
          refine va_get (D := (dC, dI)) (ci := 5) (v := .ref (R 35)) (C := RX4) (T := TX4) (N := 43) hx hb hts (fun _ h => List.mem_cons_of_mem _ (List.mem_append_right _ h)) hown hK hP 0 rfl rfl 35 (by decide) (hts (.fieldLink RX4 92 "FrontDoorModel" "by" "[I") (by decide +kernel)) (fun _ h9 => h9) rfl dX4_callOf_133 ?_
          refine lv_iload_n hx hb dX4_callOf_136 rfl (lv_at hl 1 rfl) ?_
          refine va_iald hx hb hK hP 26 25 rfl rfl (vp_in_nI (by omega) (by decide)) dX4_callOf_137 ?_
          refine lv_topi (fun x_18 ex_18 => ?_)
          replace ex_18 : x_18 = (F 35) (Int32.toNatClampNeg (nI j_1)) := ex_18
          refine lv_goto (tgt := 163) hx hb dX4_callOf_138 (by decide) ?_
          exact W.iret (v := x_18) hx hb hr (fun t ht hW => ⟨⟨x_18, (I, F), rfl, (by first | exact ⟨rfl, fun k hk => rfl⟩ | exact ⟨hw.2.1, hw.2.2⟩), by rw [ht]; exact hP, va_K.moved hW.alike hK, hD⟩, hS.F ht⟩) hS.2.2 dX4_callOf_163
      · skip
        subst e_3
        refine lv_tableIn (off := 149) (tgt := 164) hx hb dX4_callOf_15 (by decide) (by decide) (by decide) (by decide) ?_
        refine lv_aload_n hx hb dX4_callOf_164 rfl (lv_at hl 0 rfl) ?_
        refine va_get (D := (dC, dI)) (ci := 5) (v := .ref (R 31)) (C := RX4) (T := TX4) (N := 43) hx hb hts (fun _ h => List.mem_cons_of_mem _ (List.mem_append_right _ h)) hown hK hP 0 rfl rfl 31 (by decide) (hts (.fieldLink RX4 80 "FrontDoorModel" "asks" "[I") (by decide +kernel)) (fun _ h9 => h9) rfl dX4_callOf_165 ?_
        refine lv_iload_n hx hb dX4_callOf_168 rfl (lv_at hl 1 rfl) ?_
        refine va_iald hx hb hK hP 22 21 rfl rfl (vp_in_nI (by omega) (by decide)) dX4_callOf_169 ?_
        refine lv_topi (fun x_19 ex_19 => ?_)
        replace ex_19 : x_19 = (F 31) (Int32.toNatClampNeg (nI j_1)) := ex_19
        refine lv_iconst (v := 1) hx hb dX4_callOf_170 (by decide) ?_
        refine lv_icmp_le (tgt := 187) hx hb dX4_callOf_171 (by decide) (fun c_20 => ?_) (fun c_20 => ?_)
        · skip
          have i_20 : x_19.toInt ≤ 1 := by have h9 := pz_le c_20; exact h9
          refine lv_bipush (v := (-9)) hx hb dX4_callOf_187 (by decide) ?_
          exact W.iret (v := (-9)) hx hb hr (fun t ht hW => ⟨⟨(-9), (I, F), rfl, (by first | exact ⟨rfl, fun k hk => rfl⟩ | exact ⟨hw.2.1, hw.2.2⟩), by rw [ht]; exact hP, va_K.moved hW.alike hK, hD⟩, hS.F ht⟩) hS.2.2 dX4_callOf_189
        · skip
          have i_20 : 1 < x_19.toInt := by have h9 := pz_nle c_20; exact h9
          refine lv_aload_n hx hb dX4_callOf_174 rfl (lv_at hl 0 rfl) ?_
          refine va_get (D := (dC, dI)) (ci := 5) (v := .ref (R 37)) (C := RX4) (T := TX4) (N := 43) hx hb hts (fun _ h => List.mem_cons_of_mem _ (List.mem_append_right _ h)) hown hK hP 0 rfl rfl 37 (by decide) (hts (.fieldLink RX4 99 "FrontDoorModel" "at" "[I") (by decide +kernel)) (fun _ h9 => h9) rfl dX4_callOf_175 ?_
          refine lv_iconst (v := 2) hx hb dX4_callOf_178 (by decide) ?_
          refine lv_iload_n hx hb dX4_callOf_179 rfl (lv_at hl 1 rfl) ?_
          refine lv_imul hx hb dX4_callOf_180 ?_
          refine lv_topi (fun x_21 ex_21 => ?_)
          obtain rfl : x_21 = (nI (2 * j_1)) := ex_21.trans (pk_mul 2 j_1)
          refine lv_iconst (v := 1) hx hb dX4_callOf_181 (by decide) ?_
          refine lv_iadd hx hb dX4_callOf_182 ?_
          refine lv_topi (fun x_22 ex_22 => ?_)
          obtain rfl : x_22 = (nI ((2 * j_1) + 1)) := ex_22.trans (nI_add (2 * j_1) 1)
          refine va_iald hx hb hK hP 28 27 rfl rfl (vp_in_nI (by omega) (by decide)) dX4_callOf_183 ?_
          refine lv_topi (fun x_23 ex_23 => ?_)
          replace ex_23 : x_23 = (F 37) (Int32.toNatClampNeg (nI ((2 * j_1) + 1))) := ex_23
          refine lv_goto (tgt := 189) hx hb dX4_callOf_184 (by decide) ?_
          exact W.iret (v := x_23) hx hb hr (fun t ht hW => ⟨⟨x_23, (I, F), rfl, (by first | exact ⟨rfl, fun k hk => rfl⟩ | exact ⟨hw.2.1, hw.2.2⟩), by rw [ht]; exact hP, va_K.moved hW.alike hK, hD⟩, hS.F ht⟩) hS.2.2 dX4_callOf_189
      · skip
        subst e_3
        refine lv_tableIn (off := 175) (tgt := 190) hx hb dX4_callOf_15 (by decide) (by decide) (by decide) (by decide) ?_
        refine lv_aload_n hx hb dX4_callOf_190 rfl (lv_at hl 0 rfl) ?_
        refine va_get (D := (dC, dI)) (ci := 5) (v := .ref (R 32)) (C := RX4) (T := TX4) (N := 43) hx hb hts (fun _ h => List.mem_cons_of_mem _ (List.mem_append_right _ h)) hown hK hP 0 rfl rfl 32 (by decide) (hts (.fieldLink RX4 83 "FrontDoorModel" "tried" "[I") (by decide +kernel)) (fun _ h9 => h9) rfl dX4_callOf_191 ?_
        refine lv_iload_n hx hb dX4_callOf_194 rfl (lv_at hl 1 rfl) ?_
        refine va_iald hx hb hK hP 23 22 rfl rfl (vp_in_nI (by omega) (by decide)) dX4_callOf_195 ?_
        refine lv_topi (fun x_24 ex_24 => ?_)
        replace ex_24 : x_24 = (F 32) (Int32.toNatClampNeg (nI j_1)) := ex_24
        exact W.iret (v := x_24) hx hb hr (fun t ht hW => ⟨⟨x_24, (I, F), rfl, (by first | exact ⟨rfl, fun k hk => rfl⟩ | exact ⟨hw.2.1, hw.2.2⟩), by rw [ht]; exact hP, va_K.moved hW.alike hK, hD⟩, hS.F ht⟩) hS.2.2 dX4_callOf_196
      · skip
        subst e_3
        refine lv_tableIn (off := 182) (tgt := 197) hx hb dX4_callOf_15 (by decide) (by decide) (by decide) (by decide) ?_
        refine lv_aload_n hx hb dX4_callOf_197 rfl (lv_at hl 0 rfl) ?_
        refine va_get (D := (dC, dI)) (ci := 5) (v := .ref (R 33)) (C := RX4) (T := TX4) (N := 43) hx hb hts (fun _ h => List.mem_cons_of_mem _ (List.mem_append_right _ h)) hown hK hP 0 rfl rfl 33 (by decide) (hts (.fieldLink RX4 86 "FrontDoorModel" "came" "[I") (by decide +kernel)) (fun _ h9 => h9) rfl dX4_callOf_198 ?_
        refine lv_iload_n hx hb dX4_callOf_201 rfl (lv_at hl 1 rfl) ?_
        refine va_iald hx hb hK hP 24 23 rfl rfl (vp_in_nI (by omega) (by decide)) dX4_callOf_202 ?_
        refine lv_topi (fun x_25 ex_25 => ?_)
        replace ex_25 : x_25 = (F 33) (Int32.toNatClampNeg (nI j_1)) := ex_25
        exact W.iret (v := x_25) hx hb hr (fun t ht hW => ⟨⟨x_25, (I, F), rfl, (by first | exact ⟨rfl, fun k hk => rfl⟩ | exact ⟨hw.2.1, hw.2.2⟩), by rw [ht]; exact hP, va_K.moved hW.alike hK, hD⟩, hS.F ht⟩) hS.2.2 dX4_callOf_203
      · skip
        subst e_3
        refine lv_tableIn (off := 189) (tgt := 204) hx hb dX4_callOf_15 (by decide) (by decide) (by decide) (by decide) ?_
        refine lv_aload_n hx hb dX4_callOf_204 rfl (lv_at hl 0 rfl) ?_
        refine va_get (D := (dC, dI)) (ci := 5) (v := .ref (R 34)) (C := RX4) (T := TX4) (N := 43) hx hb hts (fun _ h => List.mem_cons_of_mem _ (List.mem_append_right _ h)) hown hK hP 0 rfl rfl 34 (by decide) (hts (.fieldLink RX4 89 "FrontDoorModel" "ended" "[I") (by decide +kernel)) (fun _ h9 => h9) rfl dX4_callOf_205 ?_
        refine lv_iload_n hx hb dX4_callOf_208 rfl (lv_at hl 1 rfl) ?_
        refine va_iald hx hb hK hP 25 24 rfl rfl (vp_in_nI (by omega) (by decide)) dX4_callOf_209 ?_
        refine lv_topi (fun x_26 ex_26 => ?_)
        replace ex_26 : x_26 = (F 34) (Int32.toNatClampNeg (nI j_1)) := ex_26
        exact W.iret (v := x_26) hx hb hr (fun t ht hW => ⟨⟨x_26, (I, F), rfl, (by first | exact ⟨rfl, fun k hk => rfl⟩ | exact ⟨hw.2.1, hw.2.2⟩), by rw [ht]; exact hP, va_K.moved hW.alike hK, hD⟩, hS.F ht⟩) hS.2.2 dX4_callOf_210
  · skip
    have hr9 : r_1 = 0 := hr9
    subst hr9
    have f_1_0 : (a1.toInt < 0 ∨ (nI nc).toInt ≤ a1.toInt) := pz_id f_1_0
    refine lv_if_ne (tgt := 14) hx hb dX4_callOf_5 (by decide) (fun c_27 => absurd c_27 (by decide)) (fun c_27 => ?_)
    refine lv_aload_n hx hb dX4_callOf_8 rfl (lv_at hl 0 rfl) ?_
    refine lv_iconst (v := (-1)) hx hb dX4_callOf_9 (by decide) ?_
    have hPc := hP.sub (ws' := (gW h0 R C I F)) [0, 1, 2, 3, 4, 5, 6, 7, 8, 9, 10, 11, 12, 13, 14, 15, 16, 17, 18, 19, 20, 21, 22, 23, 24, 25, 26, 27, 28, 29, 30, 31, 32] rfl
    have hDc := hD.sub (ws' := (gW h0 R C I F)) [0, 1, 2, 3, 4, 5, 6, 7, 8, 9, 10, 11, 12, 13, 14, 15, 16, 17, 18, 19, 20, 21, 22, 23, 24, 25, 26, 27, 28, 29, 30, 31, 32] (by decide) rfl
    have hKc := hK.sub (tys' := (gT C)) [0, 1, 2, 3, 4, 5, 6, 7, 8, 9, 10, 11, 12, 13, 14, 15, 16, 17, 18, 19, 20, 21, 22, 23, 24, 25, 26, 27, 28, 29, 30, 31] rfl
    have hFc := va_free (wc := (gW h0 R C I F)) hD hS hA [0, 1, 2, 3, 4, 5, 6, 7, 8, 9, 10, 11, 12, 13, 14, 15, 16, 17, 18, 19, 20, 21, 22, 23, 24, 25, 26, 27, 28, 29, 30, 31, 32] rfl
    refine va_calli (va_runV (As := [.int (-1)]) (rest := []) ⟨hx, hb, hml, hown, hts⟩ (m_X4_refuse1 l dC dI h0 R C I F H.size) (cwV 1 hts gX4_callOf_X4_refuse rfl rfl rfl (by decide +kernel) ⟨Nat.le_of_ble_eq_true rfl, Nat.le_of_ble_eq_true rfl⟩) ⟨pz_blind, va_recv hKc hPc (ci := 5) (q0 := 0) rfl rfl, fun U hU hW => ⟨rfl, pz_at hPc hKc hDc hU hW⟩⟩ rfl rfl hl.1 rfl (lv_room (Nat.le_of_ble_eq_true rfl)) dX4_callOf_10 ⟨Nat.le_of_ble_eq_true rfl, Nat.le_of_ble_eq_true rfl⟩) hS (fun q _ h => hFc q h) hFc (fun r_28 u t H locs ht hvm hw hB hz1 hk1 hS => ?_)
    obtain ⟨I_28, F_28⟩ := u
    obtain ⟨hP1, hK1, hD1⟩ := hB
    rw [ht] at hP1
    try dsimp only at hw
    have hP := hP1
    have hD := hD1.weaken (fun _ _ _ h9 => hFc _ h9)
    have hP : va_P (dC, dI) vwCl (gW h0 R C I_28 F_28) H := hP
    have hD : va_D A (gW h0 R C I_28 F_28) := hD
    have hr8 : r_28 = (-1) := hw.1
    subst hr8
    exact W.iret (v := (-1)) hx hb hr (fun t ht hW => ⟨⟨(-1), (I_28, F_28), rfl, (by first | exact ⟨rfl, fun k hk => rfl⟩ | exact ⟨hw.2.1, hw.2.2⟩), by rw [ht]; exact hP, va_K.moved hW.alike hK, hD⟩, hS.F ht⟩) hS.2.2 dX4_callOf_13

set_option maxHeartbeats 40000000 in
set_option maxRecDepth 100000 in
theorem m_X4_share (l : Launch) (dC : Nat → ClassId) (dI : Nat → Nat → Nat) (h0 : Nat) (R : Nat → Nat) (C : Nat → ClassId) (I : Nat → Int32) (F : Nat → Nat → Int32) (ns : Nat) (a1 : Int32) (sz : Nat) (hns : I 2 = nI ns) (hbn : ns ≤ 8) : Met l yX4_share wsX4_share ({ frames := 2, cells := 0, slots := 0, locals := 42 }) (va_Pc [.ref h0, .int a1] (pzPre (dC, dI) vwCl (gW h0 R C I F) (gT C) sz)) (va_Qi (fun (r : Int32) (u : (Nat → Int32) × (Nat → Nat → Int32)) => u.1 = I ∧ ∀ k, k ≠ 0 → u.2 k = F k) (fun (u : (Nat → Int32) × (Nat → Nat → Int32)) (t : State) => va_P (dC, dI) vwCl (gW h0 R C u.1 u.2) t.heap ∧ va_K (dC, dI) vwCl (gT C) t ∧ va_D (va_A (gW h0 R C I F) sz) (gW h0 R C u.1 u.2)) (va_A (gW h0 R C I F) sz)) 0 0 (va_A (gW h0 R C I F) sz) := by
  refine Met.ofW (cc := cX4_share) (maxL := 2) (ret := (some .int)) (by decide) rfl ?_
  intro p e s m args below meth c s₁ B hml hv
  obtain ⟨rfl, hsz, hP, hK, hD0⟩ := hv
  have hx := B.exec
  have hb := B.bytes
  have hr := B.returns
  have hts := atoms_spec (ws := wsX4_share) B.pre
  have hown : s.vm.findClass RX4 = some m.cls := findClass_of_methodNamed B.named
  have hlocks := B.notSynchronized
  subst hsz
  have hD := hD0.self (sz := s.heap.size)
  generalize hAe : va_A (gW h0 R C I F) s.heap.size = A at hD ⊢
  have hA : ∀ q : Nat, s.heap.size ≤ q → A q := fun q h => by rw [← hAe]; exact Or.inr h
  have hS : va_S A s.heap s.heap [] := va_S.rf
  have hP : va_P (dC, dI) vwCl (gW h0 R C I F) s.heap := hP
  have hnsI : (nI ns).toInt = (ns : Int) := nI_toInt (by omega)
  have hl := lv_entry ([.ref h0, .int a1]) (n := 2) (Nat.le_of_ble_eq_true rfl)
  rw [lg_entry_eq]
  generalize (lg_sl ([.ref h0, .int a1]) ++ List.replicate (2 - (lg_sl ([.ref h0, .int a1])).length) Slot.unset).toArray = ls at hl ⊢
  have hl : lv_has ls 2 [(0, .ref h0), (1, .int a1)] := hl
  refine lv_aload_n hx hb dX4_share_0 rfl (lv_at hl 0 rfl) ?_
  refine lv_iload_n hx hb dX4_share_1 rfl (lv_at hl 1 rfl) ?_
  have hPc := hP.sub (ws' := (gW h0 R C I F)) [0, 1, 2, 3, 4, 5, 6, 7, 8, 9, 10, 11, 12, 13, 14, 15, 16, 17, 18, 19, 20, 21, 22, 23, 24, 25, 26, 27, 28, 29, 30, 31, 32] rfl
  have hDc := hD.sub (ws' := (gW h0 R C I F)) [0, 1, 2, 3, 4, 5, 6, 7, 8, 9, 10, 11, 12, 13, 14, 15, 16, 17, 18, 19, 20, 21, 22, 23, 24, 25, 26, 27, 28, 29, 30, 31, 32] (by decide) rfl
  have hKc := hK.sub (tys' := (gT C)) [0, 1, 2, 3, 4, 5, 6, 7, 8, 9, 10, 11, 12, 13, 14, 15, 16, 17, 18, 19, 20, 21, 22, 23, 24, 25, 26, 27, 28, 29, 30, 31] rfl
  have hFc := pz_f hA hS
  refine va_calli (va_runV (As := [.int a1]) (rest := []) ⟨hx, hb, hml, hown, hts⟩ (m_X4_isServer l dC dI h0 R C I F ns a1 s.heap.size hns hbn) (cwV 1 hts gX4_share_X4_isServer rfl rfl rfl (by decide +kernel) ⟨Nat.le_of_ble_eq_true rfl, Nat.le_of_ble_eq_true rfl⟩) ⟨pz_blind, va_recv hKc hPc (ci := 5) (q0 := 0) rfl rfl, fun U hU hW => ⟨rfl, pz_at hPc hKc hDc hU hW⟩⟩ rfl rfl hl.1 rfl (lv_room (Nat.le_of_ble_eq_true rfl)) dX4_share_2 ⟨Nat.le_of_ble_eq_true rfl, Nat.le_of_ble_eq_true rfl⟩) hS (fun q _ h => hFc q h) hFc (fun r_1 u t H locs ht hvm hw hB hz1 hk1 hS => ?_)
  have hP := pz_keep hP hk1
  rcases hw with ⟨f_1_0, f_1_1, hr9⟩ | ⟨f_1_0, hr9⟩
  · skip
    have hr9 : r_1 = 1 := hr9
    subst hr9
    have f_1_0 : 0 ≤ a1.toInt := pz_id f_1_0
    have f_1_1 : a1.toInt < (nI ns).toInt := pz_id f_1_1
    obtain ⟨j_1, hj_1, ej_1⟩ : ∃ j : Nat, j < ns ∧ a1 = nI j := pz_ixof f_1_0 f_1_1 (by omega)
    subst ej_1
    refine lv_if_ne (tgt := 14) hx hb dX4_share_5 (by decide) (fun c_2 => ?_) (fun c_2 => absurd c_2 (by decide))
    refine lv_aload_n hx hb dX4_share_14 rfl (lv_at hl 0 rfl) ?_
    refine va_get (D := (dC, dI)) (ci := 5) (v := .int (I 8)) (C := RX4) (T := TX4) (N := 43) hx hb hts (fun _ h => List.mem_cons_of_mem _ (List.mem_append_right _ h)) hown hK hP 0 rfl rfl 8 (by decide) (hts (.fieldLink RX4 160 "FrontDoorModel" "askings" "I") (by decide +kernel)) (fun _ h9 => h9) rfl dX4_share_15 ?_
    refine lv_if_ne (tgt := 25) hx hb dX4_share_18 (by decide) (fun c_3 => ?_) (fun c_3 => ?_)
    · skip
      have i_3 : ¬ (I 8).toInt = 0 := by have h9 := pz_neq c_3; exact h9
      refine lv_sipush (v := 1000) hx hb dX4_share_25 (by decide) ?_
      refine lv_aload_n hx hb dX4_share_28 rfl (lv_at hl 0 rfl) ?_
      refine va_get (D := (dC, dI)) (ci := 5) (v := .ref (R 19)) (C := RX4) (T := TX4) (N := 43) hx hb hts (fun _ h => List.mem_cons_of_mem _ (List.mem_append_right _ h)) hown hK hP 0 rfl rfl 19 (by decide) (hts (.fieldLink RX4 44 "FrontDoorModel" "asked" "[I") (by decide +kernel)) (fun _ h9 => h9) rfl dX4_share_29 ?_
      refine lv_iload_n hx hb dX4_share_32 rfl (lv_at hl 1 rfl) ?_
      refine va_iald hx hb hK hP 10 9 rfl rfl (vp_in_nI (by omega) (by decide)) dX4_share_33 ?_
      refine lv_topi (fun x_4 ex_4 => ?_)
      replace ex_4 : x_4 = (F 19) (Int32.toNatClampNeg (nI j_1)) := ex_4
      refine lv_imul hx hb dX4_share_34 ?_
      refine lv_topi (fun x_5 ex_5 => ?_)
      refine lv_aload_n hx hb dX4_share_35 rfl (lv_at hl 0 rfl) ?_
      refine va_get (D := (dC, dI)) (ci := 5) (v := .int (I 8)) (C := RX4) (T := TX4) (N := 43) hx hb hts (fun _ h => List.mem_cons_of_mem _ (List.mem_append_right _ h)) hown hK hP 0 rfl rfl 8 (by decide) (hts (.fieldLink RX4 160 "FrontDoorModel" "askings" "I") (by decide +kernel)) (fun _ h9 => h9) rfl dX4_share_36 ?_
      refine lv_idiv hx hb dX4_share_39 c_3 ?_
      refine lv_topi (fun x_6 ex_6 => ?_)
      exact W.iret (v := x_6) hx hb hr (fun t ht hW => ⟨⟨x_6, (I, F), rfl, (by first | exact ⟨rfl, fun k hk => rfl⟩ | exact ⟨hw.2.1, hw.2.2⟩), by rw [ht]; exact hP, va_K.moved hW.alike hK, hD⟩, hS.F ht⟩) hS.2.2 dX4_share_40
    · skip
      have i_3 : (I 8).toInt = 0 := by have h9 := pz_eq c_3; exact h9
      refine lv_iconst (v := 0) hx hb dX4_share_21 (by decide) ?_
      refine lv_goto (tgt := 40) hx hb dX4_share_22 (by decide) ?_
      exact W.iret (v := 0) hx hb hr (fun t ht hW => ⟨⟨0, (I, F), rfl, (by first | exact ⟨rfl, fun k hk => rfl⟩ | exact ⟨hw.2.1, hw.2.2⟩), by rw [ht]; exact hP, va_K.moved hW.alike hK, hD⟩, hS.F ht⟩) hS.2.2 dX4_share_40
  · skip
    have hr9 : r_1 = 0 := hr9
    subst hr9
    have f_1_0 : (a1.toInt < 0 ∨ (nI ns).toInt ≤ a1.toInt) := pz_id f_1_0
    refine lv_if_ne (tgt := 14) hx hb dX4_share_5 (by decide) (fun c_7 => absurd c_7 (by decide)) (fun c_7 => ?_)
    refine lv_aload_n hx hb dX4_share_8 rfl (lv_at hl 0 rfl) ?_
    refine lv_iconst (v := (-1)) hx hb dX4_share_9 (by decide) ?_
    have hPc := hP.sub (ws' := (gW h0 R C I F)) [0, 1, 2, 3, 4, 5, 6, 7, 8, 9, 10, 11, 12, 13, 14, 15, 16, 17, 18, 19, 20, 21, 22, 23, 24, 25, 26, 27, 28, 29, 30, 31, 32] rfl
    have hDc := hD.sub (ws' := (gW h0 R C I F)) [0, 1, 2, 3, 4, 5, 6, 7, 8, 9, 10, 11, 12, 13, 14, 15, 16, 17, 18, 19, 20, 21, 22, 23, 24, 25, 26, 27, 28, 29, 30, 31, 32] (by decide) rfl
    have hKc := hK.sub (tys' := (gT C)) [0, 1, 2, 3, 4, 5, 6, 7, 8, 9, 10, 11, 12, 13, 14, 15, 16, 17, 18, 19, 20, 21, 22, 23, 24, 25, 26, 27, 28, 29, 30, 31] rfl
    have hFc := va_free (wc := (gW h0 R C I F)) hD hS hA [0, 1, 2, 3, 4, 5, 6, 7, 8, 9, 10, 11, 12, 13, 14, 15, 16, 17, 18, 19, 20, 21, 22, 23, 24, 25, 26, 27, 28, 29, 30, 31, 32] rfl
    refine va_calli (va_runV (As := [.int (-1)]) (rest := []) ⟨hx, hb, hml, hown, hts⟩ (m_X4_refuse1 l dC dI h0 R C I F H.size) (cwV 1 hts gX4_share_X4_refuse rfl rfl rfl (by decide +kernel) ⟨Nat.le_of_ble_eq_true rfl, Nat.le_of_ble_eq_true rfl⟩) ⟨pz_blind, va_recv hKc hPc (ci := 5) (q0 := 0) rfl rfl, fun U hU hW => ⟨rfl, pz_at hPc hKc hDc hU hW⟩⟩ rfl rfl hl.1 rfl (lv_room (Nat.le_of_ble_eq_true rfl)) dX4_share_10 ⟨Nat.le_of_ble_eq_true rfl, Nat.le_of_ble_eq_true rfl⟩) hS (fun q _ h => hFc q h) hFc (fun r_8 u t H locs ht hvm hw hB hz1 hk1 hS => ?_)
    obtain ⟨I_8, F_8⟩ := u
    obtain ⟨hP1, hK1, hD1⟩ := hB
    rw [ht] at hP1
    try dsimp only at hw
    have hP := hP1
    have hD := hD1.weaken (fun _ _ _ h9 => hFc _ h9)
    have hP : va_P (dC, dI) vwCl (gW h0 R C I_8 F_8) H := hP
    have hD : va_D A (gW h0 R C I_8 F_8) := hD
    have hr8 : r_8 = (-1) := hw.1
    subst hr8
    exact W.iret (v := (-1)) hx hb hr (fun t ht hW => ⟨⟨(-1), (I_8, F_8), rfl, (by first | exact ⟨rfl, fun k hk => rfl⟩ | exact ⟨hw.2.1, hw.2.2⟩), by rw [ht]; exact hP, va_K.moved hW.alike hK, hD⟩, hS.F ht⟩) hS.2.2 dX4_share_13

set_option maxHeartbeats 40000000 in
set_option maxRecDepth 100000 in
theorem m_X4_markOf (l : Launch) (dC : Nat → ClassId) (dI : Nat → Nat → Nat) (s0 : Int32) (m0 : Int32) (sz : Nat) : Met l yX4_markOf wsX4_markOf ({ frames := 0, cells := 0, slots := 0, locals := 0 }) (va_Pc [.int s0, .int m0] (pzPre (dC, dI) vwCl [] [] sz)) (va_Qi (fun (r : Int32) (_ : Unit) => r = gMark s0 m0) (fun _ _ => True) (va_A [] sz)) 0 0 (va_A [] sz) := by
  refine Met.ofW (cc := cX4_markOf) (maxL := 2) (ret := (some .int)) (by decide) rfl ?_
  intro p e s m args below meth c s₁ B hml hv
  obtain ⟨rfl, hsz, hP, hK, hD0⟩ := hv
  have hx := B.exec
  have hb := B.bytes
  have hr := B.returns
  have hts := atoms_spec (ws := wsX4_markOf) B.pre
  have hown : s.vm.findClass RX4 = some m.cls := findClass_of_methodNamed B.named
  have hlocks := B.notSynchronized
  subst hsz
  have hA : ∀ q : Nat, s.heap.size ≤ q → va_A [] s.heap.size q := fun q h => Or.inr h
  have hD := hD0
  generalize va_A [] s.heap.size = A at hA ⊢
  have hS : va_S A s.heap s.heap [] := va_S.rf
  have hP : va_P (dC, dI) vwCl [] s.heap := hP
  have hl := lv_entry ([.int s0, .int m0]) (n := 2) (Nat.le_of_ble_eq_true rfl)
  rw [lg_entry_eq]
  generalize (lg_sl ([.int s0, .int m0]) ++ List.replicate (2 - (lg_sl ([.int s0, .int m0])).length) Slot.unset).toArray = ls at hl ⊢
  have hl : lv_has ls 2 [(0, .int s0), (1, .int m0)] := hl
  refine lv_ldc hx hb hown (hts (.constant RX4 142 (40503)) (by decide +kernel)) dX4_markOf_0 ?_
  refine lv_iconst (v := 4) hx hb dX4_markOf_2 (by decide) ?_
  refine lv_iload_n hx hb dX4_markOf_3 rfl (lv_at hl 0 rfl) ?_
  refine lv_imul hx hb dX4_markOf_4 ?_
  refine lv_topi (fun x_1 ex_1 => ?_)
  subst ex_1
  refine lv_iload_n hx hb dX4_markOf_5 rfl (lv_at hl 1 rfl) ?_
  refine lv_iadd hx hb dX4_markOf_6 ?_
  refine lv_topi (fun x_2 ex_2 => ?_)
  subst ex_2
  refine lv_iconst (v := 1) hx hb dX4_markOf_7 (by decide) ?_
  refine lv_iadd hx hb dX4_markOf_8 ?_
  refine lv_topi (fun x_3 ex_3 => ?_)
  subst ex_3
  refine lv_imul hx hb dX4_markOf_9 ?_
  refine lv_topi (fun x_4 ex_4 => ?_)
  subst ex_4
  refine lv_ldc hx hb hown (hts (.constant RX4 143 (65536)) (by decide +kernel)) dX4_markOf_10 ?_
  refine lv_irem hx hb dX4_markOf_12 (by decide) ?_
  refine lv_topi (fun x_5 ex_5 => ?_)
  subst ex_5
  exact W.iret (v := ((40503 * (((4 * s0) + m0) + 1)) - (40503 * (((4 * s0) + m0) + 1)) / 65536 * 65536)) hx hb hr (fun t ht hW => ⟨⟨((40503 * (((4 * s0) + m0) + 1)) - (40503 * (((4 * s0) + m0) + 1)) / 65536 * 65536), (), rfl, (by first | rfl | simp_all), trivial⟩, hS.F ht⟩) hS.2.2 dX4_markOf_13

set_option maxHeartbeats 40000000 in
set_option maxRecDepth 100000 in
theorem m_X4_mark (l : Launch) (dC : Nat → ClassId) (dI : Nat → Nat → Nat) (h0 : Nat) (R : Nat → Nat) (C : Nat → ClassId) (I : Nat → Int32) (F : Nat → Nat → Int32) (ns : Nat) (a1 : Int32) (a2 : Int32) (sz : Nat) (hns : I 2 = nI ns) (hbn : ns ≤ 8) : Met l yX4_mark wsX4_mark ({ frames := 2, cells := 0, slots := 0, locals := 42 }) (va_Pc [.ref h0, .int a1, .int a2] (pzPre (dC, dI) vwCl (gW h0 R C I F) (gT C) sz)) (va_Qi (fun (r : Int32) (u : (Nat → Int32) × (Nat → Nat → Int32)) => r = exMark ns a1 a2 ∧ u.1 = I ∧ ∀ k, k ≠ 0 → u.2 k = F k) (fun (u : (Nat → Int32) × (Nat → Nat → Int32)) (t : State) => va_P (dC, dI) vwCl (gW h0 R C u.1 u.2) t.heap ∧ va_K (dC, dI) vwCl (gT C) t ∧ va_D (va_A (gW h0 R C I F) sz) (gW h0 R C u.1 u.2)) (va_A (gW h0 R C I F) sz)) 0 0 (va_A (gW h0 R C I F) sz) := by
  refine Met.ofW (cc := cX4_mark) (maxL := 3) (ret := (some .int)) (by decide) rfl ?_
  intro p e s m args below meth c s₁ B hml hv
  obtain ⟨rfl, hsz, hP, hK, hD0⟩ := hv
  have hx := B.exec
  have hb := B.bytes
  have hr := B.returns
  have hts := atoms_spec (ws := wsX4_mark) B.pre
  have hown : s.vm.findClass RX4 = some m.cls := findClass_of_methodNamed B.named
  have hlocks := B.notSynchronized
  subst hsz
  have hD := hD0.self (sz := s.heap.size)
  generalize hAe : va_A (gW h0 R C I F) s.heap.size = A at hD ⊢
  have hA : ∀ q : Nat, s.heap.size ≤ q → A q := fun q h => by rw [← hAe]; exact Or.inr h
  have hS : va_S A s.heap s.heap [] := va_S.rf
  have hP : va_P (dC, dI) vwCl (gW h0 R C I F) s.heap := hP
  have hnsI : (nI ns).toInt = (ns : Int) := nI_toInt (by omega)
  have hl := lv_entry ([.ref h0, .int a1, .int a2]) (n := 3) (Nat.le_of_ble_eq_true rfl)
  rw [lg_entry_eq]
  generalize (lg_sl ([.ref h0, .int a1, .int a2]) ++ List.replicate (3 - (lg_sl ([.ref h0, .int a1, .int a2])).length) Slot.unset).toArray = ls at hl ⊢
  have hl : lv_has ls 3 [(0, .ref h0), (1, .int a1), (2, .int a2)] := hl
  refine lv_aload_n hx hb dX4_mark_0 rfl (lv_at hl 0 rfl) ?_
  refine lv_iload_n hx hb dX4_mark_1 rfl (lv_at hl 1 rfl) ?_
  have hPc := hP.sub (ws' := (gW h0 R C I F)) [0, 1, 2, 3, 4, 5, 6, 7, 8, 9, 10, 11, 12, 13, 14, 15, 16, 17, 18, 19, 20, 21, 22, 23, 24, 25, 26, 27, 28, 29, 30, 31, 32] rfl
  have hDc := hD.sub (ws' := (gW h0 R C I F)) [0, 1, 2, 3, 4, 5, 6, 7, 8, 9, 10, 11, 12, 13, 14, 15, 16, 17, 18, 19, 20, 21, 22, 23, 24, 25, 26, 27, 28, 29, 30, 31, 32] (by decide) rfl
  have hKc := hK.sub (tys' := (gT C)) [0, 1, 2, 3, 4, 5, 6, 7, 8, 9, 10, 11, 12, 13, 14, 15, 16, 17, 18, 19, 20, 21, 22, 23, 24, 25, 26, 27, 28, 29, 30, 31] rfl
  have hFc := pz_f hA hS
  refine va_calli (va_runV (As := [.int a1]) (rest := []) ⟨hx, hb, hml, hown, hts⟩ (m_X4_isServer l dC dI h0 R C I F ns a1 s.heap.size hns hbn) (cwV 1 hts gX4_mark_X4_isServer rfl rfl rfl (by decide +kernel) ⟨Nat.le_of_ble_eq_true rfl, Nat.le_of_ble_eq_true rfl⟩) ⟨pz_blind, va_recv hKc hPc (ci := 5) (q0 := 0) rfl rfl, fun U hU hW => ⟨rfl, pz_at hPc hKc hDc hU hW⟩⟩ rfl rfl hl.1 rfl (lv_room (Nat.le_of_ble_eq_true rfl)) dX4_mark_2 ⟨Nat.le_of_ble_eq_true rfl, Nat.le_of_ble_eq_true rfl⟩) hS (fun q _ h => hFc q h) hFc (fun r_1 u t H locs ht hvm hw hB hz1 hk1 hS => ?_)
  have hP := pz_keep hP hk1
  rcases hw with ⟨f_1_0, f_1_1, hr9⟩ | ⟨f_1_0, hr9⟩
  · skip
    have hr9 : r_1 = 1 := hr9
    subst hr9
    have f_1_0 : 0 ≤ a1.toInt := pz_id f_1_0
    have f_1_1 : a1.toInt < (nI ns).toInt := pz_id f_1_1
    obtain ⟨j_1, hj_1, ej_1⟩ : ∃ j : Nat, j < ns ∧ a1 = nI j := pz_ixof f_1_0 f_1_1 (by omega)
    subst ej_1
    refine lv_if_ne (tgt := 14) hx hb dX4_mark_5 (by decide) (fun c_2 => ?_) (fun c_2 => absurd c_2 (by decide))
    refine lv_iload_n hx hb dX4_mark_14 rfl (lv_at hl 2 rfl) ?_
    refine lv_iconst (v := 4) hx hb dX4_mark_15 (by decide) ?_
    have hPc := hP.sub (ws' := []) [] rfl
    have hDc := hD.sub (ws' := []) [] (by decide) rfl
    have hKc := hK.sub (tys' := []) [] rfl
    have hFc := pz_f hA hS
    refine va_calli (va_runS (As := [.int a2, .int 4]) (rest := []) ⟨hx, hb, hml, hown, hts⟩ (m_X4_isIn l dC dI a2 4 H.size) (va_cwS 2 hts gX4_mark_X4_isIn rfl rfl rfl (by decide +kernel) ⟨Nat.le_of_ble_eq_true rfl, Nat.le_of_ble_eq_true rfl⟩) ⟨pz_blind, fun U hU hW => ⟨rfl, pz_at hPc hKc hDc hU hW⟩⟩ rfl rfl hl.1 rfl (lv_room (Nat.le_of_ble_eq_true rfl)) dX4_mark_16 ⟨Nat.le_of_ble_eq_true rfl, Nat.le_of_ble_eq_true rfl⟩) hS (fun q _ h => hFc q h) hFc (fun r_3 u t H locs ht hvm hw hB hz1 hk1 hS => ?_)
    have hP := pz_keep hP hk1
    rcases hw with ⟨f_3_0, f_3_1, hr9⟩ | ⟨f_3_0, hr9⟩
    · skip
      have hr9 : r_3 = 1 := hr9
      subst hr9
      have f_3_0 : 0 ≤ a2.toInt := pz_id f_3_0
      have f_3_1 : a2.toInt < 4 := f_3_1
      refine lv_if_eq (tgt := 30) hx hb dX4_mark_19 (by decide) (fun c_4 => absurd c_4 (by decide)) (fun c_4 => ?_)
      refine lv_iload_n hx hb dX4_mark_22 rfl (lv_at hl 1 rfl) ?_
      refine lv_iload_n hx hb dX4_mark_23 rfl (lv_at hl 2 rfl) ?_
      have hPc := hP.sub (ws' := []) [] rfl
      have hDc := hD.sub (ws' := []) [] (by decide) rfl
      have hKc := hK.sub (tys' := []) [] rfl
      have hFc := pz_f hA hS
      refine va_calli (va_runS (As := [.int (nI j_1), .int a2]) (rest := []) ⟨hx, hb, hml, hown, hts⟩ (m_X4_markOf l dC dI (nI j_1) a2 H.size) (va_cwS 2 hts gX4_mark_X4_markOf rfl rfl rfl (by decide +kernel) ⟨Nat.le_of_ble_eq_true rfl, Nat.le_of_ble_eq_true rfl⟩) ⟨pz_blind, fun U hU hW => ⟨rfl, pz_at hPc hKc hDc hU hW⟩⟩ rfl rfl hl.1 rfl (lv_room (Nat.le_of_ble_eq_true rfl)) dX4_mark_24 ⟨Nat.le_of_ble_eq_true rfl, Nat.le_of_ble_eq_true rfl⟩) hS (fun q _ h => hFc q h) hFc (fun r_5 u t H locs ht hvm hw hB hz1 hk1 hS => ?_)
      have hP := pz_keep hP hk1
      have hw : r_5 = (gMark (nI j_1) a2) := hw
      subst hw
      refine lv_goto (tgt := 36) hx hb dX4_mark_27 (by decide) ?_
      exact W.iret (v := (gMark (nI j_1) a2)) hx hb hr (fun t ht hW => ⟨⟨(gMark (nI j_1) a2), (I, F), rfl, (by first | (refine ⟨?_, rfl, fun k hk => rfl⟩; unfold exMark; (repeat' split) <;> first | rfl | (exfalso; omega)) | (refine ⟨?_, hw.2.1, hw.2.2⟩; unfold exMark; (repeat' split) <;> first | rfl | (exfalso; omega))), by rw [ht]; exact hP, va_K.moved hW.alike hK, hD⟩, hS.F ht⟩) hS.2.2 dX4_mark_36
    · skip
      have hr9 : r_3 = 0 := hr9
      subst hr9
      have f_3_0 : (a2.toInt < 0 ∨ 4 ≤ a2.toInt) := f_3_0
      refine lv_if_eq (tgt := 30) hx hb dX4_mark_19 (by decide) (fun c_6 => ?_) (fun c_6 => absurd (by decide) c_6)
      refine lv_aload_n hx hb dX4_mark_30 rfl (lv_at hl 0 rfl) ?_
      refine lv_bipush (v := (-2)) hx hb dX4_mark_31 (by decide) ?_
      have hPc := hP.sub (ws' := (gW h0 R C I F)) [0, 1, 2, 3, 4, 5, 6, 7, 8, 9, 10, 11, 12, 13, 14, 15, 16, 17, 18, 19, 20, 21, 22, 23, 24, 25, 26, 27, 28, 29, 30, 31, 32] rfl
      have hDc := hD.sub (ws' := (gW h0 R C I F)) [0, 1, 2, 3, 4, 5, 6, 7, 8, 9, 10, 11, 12, 13, 14, 15, 16, 17, 18, 19, 20, 21, 22, 23, 24, 25, 26, 27, 28, 29, 30, 31, 32] (by decide) rfl
      have hKc := hK.sub (tys' := (gT C)) [0, 1, 2, 3, 4, 5, 6, 7, 8, 9, 10, 11, 12, 13, 14, 15, 16, 17, 18, 19, 20, 21, 22, 23, 24, 25, 26, 27, 28, 29, 30, 31] rfl
      have hFc := va_free (wc := (gW h0 R C I F)) hD hS hA [0, 1, 2, 3, 4, 5, 6, 7, 8, 9, 10, 11, 12, 13, 14, 15, 16, 17, 18, 19, 20, 21, 22, 23, 24, 25, 26, 27, 28, 29, 30, 31, 32] rfl
      refine va_calli (va_runV (As := [.int (-2)]) (rest := []) ⟨hx, hb, hml, hown, hts⟩ (m_X4_refuse2 l dC dI h0 R C I F H.size) (cwV 1 hts gX4_mark_X4_refuse rfl rfl rfl (by decide +kernel) ⟨Nat.le_of_ble_eq_true rfl, Nat.le_of_ble_eq_true rfl⟩) ⟨pz_blind, va_recv hKc hPc (ci := 5) (q0 := 0) rfl rfl, fun U hU hW => ⟨rfl, pz_at hPc hKc hDc hU hW⟩⟩ rfl rfl hl.1 rfl (lv_room (Nat.le_of_ble_eq_true rfl)) dX4_mark_33 ⟨Nat.le_of_ble_eq_true rfl, Nat.le_of_ble_eq_true rfl⟩) hS (fun q _ h => hFc q h) hFc (fun r_7 u t H locs ht hvm hw hB hz1 hk1 hS => ?_)
      obtain ⟨I_7, F_7⟩ := u
      obtain ⟨hP1, hK1, hD1⟩ := hB
      rw [ht] at hP1
      try dsimp only at hw
      have hP := hP1
      have hD := hD1.weaken (fun _ _ _ h9 => hFc _ h9)
      have hP : va_P (dC, dI) vwCl (gW h0 R C I_7 F_7) H := hP
      have hD : va_D A (gW h0 R C I_7 F_7) := hD
      have hr8 : r_7 = (-2) := hw.1
      subst hr8
      exact W.iret (v := (-2)) hx hb hr (fun t ht hW => ⟨⟨(-2), (I_7, F_7), rfl, (by first | (refine ⟨?_, rfl, fun k hk => rfl⟩; unfold exMark; (repeat' split) <;> first | rfl | (exfalso; omega)) | (refine ⟨?_, hw.2.1, hw.2.2⟩; unfold exMark; (repeat' split) <;> first | rfl | (exfalso; omega))), by rw [ht]; exact hP, va_K.moved hW.alike hK, hD⟩, hS.F ht⟩) hS.2.2 dX4_mark_36
  · skip
    have hr9 : r_1 = 0 := hr9
    subst hr9
    have f_1_0 : (a1.toInt < 0 ∨ (nI ns).toInt ≤ a1.toInt) := pz_id f_1_0
    refine lv_if_ne (tgt := 14) hx hb dX4_mark_5 (by decide) (fun c_8 => absurd c_8 (by decide)) (fun c_8 => ?_)
    refine lv_aload_n hx hb dX4_mark_8 rfl (lv_at hl 0 rfl) ?_
    refine lv_iconst (v := (-1)) hx hb dX4_mark_9 (by decide) ?_
    have hPc := hP.sub (ws' := (gW h0 R C I F)) [0, 1, 2, 3, 4, 5, 6, 7, 8, 9, 10, 11, 12, 13, 14, 15, 16, 17, 18, 19, 20, 21, 22, 23, 24, 25, 26, 27, 28, 29, 30, 31, 32] rfl
    have hDc := hD.sub (ws' := (gW h0 R C I F)) [0, 1, 2, 3, 4, 5, 6, 7, 8, 9, 10, 11, 12, 13, 14, 15, 16, 17, 18, 19, 20, 21, 22, 23, 24, 25, 26, 27, 28, 29, 30, 31, 32] (by decide) rfl
    have hKc := hK.sub (tys' := (gT C)) [0, 1, 2, 3, 4, 5, 6, 7, 8, 9, 10, 11, 12, 13, 14, 15, 16, 17, 18, 19, 20, 21, 22, 23, 24, 25, 26, 27, 28, 29, 30, 31] rfl
    have hFc := va_free (wc := (gW h0 R C I F)) hD hS hA [0, 1, 2, 3, 4, 5, 6, 7, 8, 9, 10, 11, 12, 13, 14, 15, 16, 17, 18, 19, 20, 21, 22, 23, 24, 25, 26, 27, 28, 29, 30, 31, 32] rfl
    refine va_calli (va_runV (As := [.int (-1)]) (rest := []) ⟨hx, hb, hml, hown, hts⟩ (m_X4_refuse1 l dC dI h0 R C I F H.size) (cwV 1 hts gX4_mark_X4_refuse rfl rfl rfl (by decide +kernel) ⟨Nat.le_of_ble_eq_true rfl, Nat.le_of_ble_eq_true rfl⟩) ⟨pz_blind, va_recv hKc hPc (ci := 5) (q0 := 0) rfl rfl, fun U hU hW => ⟨rfl, pz_at hPc hKc hDc hU hW⟩⟩ rfl rfl hl.1 rfl (lv_room (Nat.le_of_ble_eq_true rfl)) dX4_mark_10 ⟨Nat.le_of_ble_eq_true rfl, Nat.le_of_ble_eq_true rfl⟩) hS (fun q _ h => hFc q h) hFc (fun r_9 u t H locs ht hvm hw hB hz1 hk1 hS => ?_)
    obtain ⟨I_9, F_9⟩ := u
    obtain ⟨hP1, hK1, hD1⟩ := hB
    rw [ht] at hP1
    try dsimp only at hw
    have hP := hP1
    have hD := hD1.weaken (fun _ _ _ h9 => hFc _ h9)
    have hP : va_P (dC, dI) vwCl (gW h0 R C I_9 F_9) H := hP
    have hD : va_D A (gW h0 R C I_9 F_9) := hD
    have hr8 : r_9 = (-1) := hw.1
    subst hr8
    exact W.iret (v := (-1)) hx hb hr (fun t ht hW => ⟨⟨(-1), (I_9, F_9), rfl, (by first | (refine ⟨?_, rfl, fun k hk => rfl⟩; unfold exMark; (repeat' split) <;> first | rfl | (exfalso; omega)) | (refine ⟨?_, hw.2.1, hw.2.2⟩; unfold exMark; (repeat' split) <;> first | rfl | (exfalso; omega))), by rw [ht]; exact hP, va_K.moved hW.alike hK, hD⟩, hS.F ht⟩) hS.2.2 dX4_mark_13
end
section
set_option maxHeartbeats 40000000 in
set_option maxRecDepth 100000 in
theorem m_X4_server (l : Launch) (dC : Nat → ClassId) (dI : Nat → Nat → Nat) (h0 : Nat) (R : Nat → Nat) (C : Nat → ClassId) (I : Nat → Int32) (F : Nat → Nat → Int32) (ns : Nat) (a1 : Int32) (a2 : Int32) (a3 : Int32) (a4 : Int32) (a5 : Int32) (sz : Nat) (hns : I 2 = nI ns) (hbn : ns ≤ 8) : Met l yX4_server wsX4_server ({ frames := 1, cells := 0, slots := 0, locals := 21 }) (va_Pc [.ref h0, .int a1, .int a2, .int a3, .int a4, .int a5] (pzPre (dC, dI) vwCl (gW h0 R C I F) (gT C) sz)) (va_Qi (fun (r : Int32) (u : (Nat → Int32) × (Nat → Nat → Int32)) => (if a2.toInt < 0 ∨ 4 ≤ a2.toInt then r = -1 ∧ u.1 = I else if a1.toInt < 1 ∨ a3.toInt < 1 ∨ a4.toInt < 1 ∨ a5.toInt < 0 then r = -4 ∧ u.1 = I else if 100 < a1.toInt ∨ 20 < a3.toInt ∨ 200 < a4.toInt ∨ 20 < a5.toInt ∨ ns = 8 then r = -6 ∧ u.1 = I else r = nI ns ∧ u.1 = va_up I 2 (nI (ns + 1))) ∧ ∀ k, k ≠ 0 → k < 11 ∨ 15 < k → k ≠ 24 → u.2 k = F k) (fun (u : (Nat → Int32) × (Nat → Nat → Int32)) (t : State) => va_P (dC, dI) vwCl (gW h0 R C u.1 u.2) t.heap ∧ va_K (dC, dI) vwCl (gT C) t ∧ va_D (va_A (gW h0 R C I F) sz) (gW h0 R C u.1 u.2)) (va_A (gW h0 R C I F) sz)) 0 0 (va_A (gW h0 R C I F) sz) := by
  refine Met.ofW (cc := cX4_server) (maxL := 7) (ret := (some .int)) (by decide) rfl ?_
  intro p e s m args below meth c s₁ B hml hv
  obtain ⟨rfl, hsz, hP, hK, hD0⟩ := hv
  have hx := B.exec
  have hb := B.bytes
  have hr := B.returns
  have hts := atoms_spec (ws := wsX4_server) B.pre
  have hown : s.vm.findClass RX4 = some m.cls := findClass_of_methodNamed B.named
  have hlocks := B.notSynchronized
  subst hsz
  have hD := hD0.self (sz := s.heap.size)
  generalize hAe : va_A (gW h0 R C I F) s.heap.size = A at hD ⊢
  have hA : ∀ q : Nat, s.heap.size ≤ q → A q := fun q h => by rw [← hAe]; exact Or.inr h
  have hS : va_S A s.heap s.heap [] := va_S.rf
  have hP : va_P (dC, dI) vwCl (gW h0 R C I F) s.heap := hP
  have hnsI : (nI ns).toInt = (ns : Int) := nI_toInt (by omega)
  have hl := lv_entry ([.ref h0, .int a1, .int a2, .int a3, .int a4, .int a5]) (n := 7) (Nat.le_of_ble_eq_true rfl)
  rw [lg_entry_eq]
  generalize (lg_sl ([.ref h0, .int a1, .int a2, .int a3, .int a4, .int a5]) ++ List.replicate (7 - (lg_sl ([.ref h0, .int a1, .int a2, .int a3, .int a4, .int a5])).length) Slot.unset).toArray = ls at hl ⊢
  have hl : lv_has ls 7 [(0, .ref h0), (1, .int a1), (2, .int a2), (3, .int a3), (4, .int a4), (5, .int a5)] := hl
  refine lv_iload_n hx hb dX4_server_0 rfl (lv_at hl 2 rfl) ?_
  refine lv_iconst (v := 4) hx hb dX4_server_1 (by decide) ?_
  have hPc := hP.sub (ws' := []) [] rfl
  have hDc := hD.sub (ws' := []) [] (by decide) rfl
  have hKc := hK.sub (tys' := []) [] rfl
  have hFc := pz_f hA hS
  refine va_calli (va_runS (As := [.int a2, .int 4]) (rest := []) ⟨hx, hb, hml, hown, hts⟩ (m_X4_isIn l dC dI a2 4 s.heap.size) (va_cwS 2 hts gX4_server_X4_isIn rfl rfl rfl (by decide +kernel) ⟨Nat.le_of_ble_eq_true rfl, Nat.le_of_ble_eq_true rfl⟩) ⟨pz_blind, fun U hU hW => ⟨rfl, pz_at hPc hKc hDc hU hW⟩⟩ rfl rfl hl.1 rfl (lv_room (Nat.le_of_ble_eq_true rfl)) dX4_server_2 ⟨Nat.le_of_ble_eq_true rfl, Nat.le_of_ble_eq_true rfl⟩) hS (fun q _ h => hFc q h) hFc (fun r_1 u t H locs ht hvm hw hB hz1 hk1 hS => ?_)
  have hP := pz_keep hP hk1
  rcases hw with ⟨f_1_0, f_1_1, hr9⟩ | ⟨f_1_0, hr9⟩
  · skip
    have hr9 : r_1 = 1 := hr9
    subst hr9
    have f_1_0 : 0 ≤ a2.toInt := pz_id f_1_0
    have f_1_1 : a2.toInt < 4 := f_1_1
    refine lv_if_ne (tgt := 14) hx hb dX4_server_5 (by decide) (fun c_2 => ?_) (fun c_2 => absurd c_2 (by decide))
    refine lv_iload_n hx hb dX4_server_14 rfl (lv_at hl 1 rfl) ?_
    refine lv_iconst (v := 1) hx hb dX4_server_15 (by decide) ?_
    refine lv_icmp_lt (tgt := 35) hx hb dX4_server_16 (by decide) (fun c_3 => ?_) (fun c_3 => ?_)
    · skip
      have i_3 : a1.toInt < 1 := by have h9 := pz_lt c_3; exact h9
      refine lv_aload_n hx hb dX4_server_35 rfl (lv_at hl 0 rfl) ?_
      refine lv_bipush (v := (-4)) hx hb dX4_server_36 (by decide) ?_
      have hPc := hP.sub (ws' := (gW h0 R C I F)) [0, 1, 2, 3, 4, 5, 6, 7, 8, 9, 10, 11, 12, 13, 14, 15, 16, 17, 18, 19, 20, 21, 22, 23, 24, 25, 26, 27, 28, 29, 30, 31, 32] rfl
      have hDc := hD.sub (ws' := (gW h0 R C I F)) [0, 1, 2, 3, 4, 5, 6, 7, 8, 9, 10, 11, 12, 13, 14, 15, 16, 17, 18, 19, 20, 21, 22, 23, 24, 25, 26, 27, 28, 29, 30, 31, 32] (by decide) rfl
      have hKc := hK.sub (tys' := (gT C)) [0, 1, 2, 3, 4, 5, 6, 7, 8, 9, 10, 11, 12, 13, 14, 15, 16, 17, 18, 19, 20, 21, 22, 23, 24, 25, 26, 27, 28, 29, 30, 31] rfl
      have hFc := va_free (wc := (gW h0 R C I F)) hD hS hA [0, 1, 2, 3, 4, 5, 6, 7, 8, 9, 10, 11, 12, 13, 14, 15, 16, 17, 18, 19, 20, 21, 22, 23, 24, 25, 26, 27, 28, 29, 30, 31, 32] rfl
      refine va_calli (va_runV (As := [.int (-4)]) (rest := []) ⟨hx, hb, hml, hown, hts⟩ (m_X4_refuse4 l dC dI h0 R C I F H.size) (cwV 1 hts gX4_server_X4_refuse rfl rfl rfl (by decide +kernel) ⟨Nat.le_of_ble_eq_true rfl, Nat.le_of_ble_eq_true rfl⟩) ⟨pz_blind, va_recv hKc hPc (ci := 5) (q0 := 0) rfl rfl, fun U hU hW => ⟨rfl, pz_at hPc hKc hDc hU hW⟩⟩ rfl rfl hl.1 rfl (lv_room (Nat.le_of_ble_eq_true rfl)) dX4_server_38 ⟨Nat.le_of_ble_eq_true rfl, Nat.le_of_ble_eq_true rfl⟩) hS (fun q _ h => hFc q h) hFc (fun r_4 u t H locs ht hvm hw hB hz1 hk1 hS => ?_)
      obtain ⟨I_4, F_4⟩ := u
      obtain ⟨hP1, hK1, hD1⟩ := hB
      rw [ht] at hP1
      try dsimp only at hw
      have hP := hP1
      have hD := hD1.weaken (fun _ _ _ h9 => hFc _ h9)
      have hP : va_P (dC, dI) vwCl (gW h0 R C I_4 F_4) H := hP
      have hD : va_D A (gW h0 R C I_4 F_4) := hD
      have hr8 : r_4 = (-4) := hw.1
      subst hr8
      exact W.iret (v := (-4)) hx hb hr (fun t ht hW => ⟨⟨(-4), (I_4, F_4), rfl, (by first | (refine ⟨?_, fun k h0 h1 h2 => ?_⟩; { (repeat' split) <;> first | exact ⟨rfl, rfl⟩ | (exfalso; omega) }; { simp only [va_up]; (repeat' split) <;> first | rfl | (exfalso; omega) }) | (obtain ⟨-, w1, w2⟩ := hw; subst w1; refine ⟨?_, fun k h0 _ _ => w2 k h0⟩; (repeat' split) <;> first | exact ⟨rfl, rfl⟩ | (exfalso; omega))), by rw [ht]; exact hP, va_K.moved hW.alike hK, hD⟩, hS.F ht⟩) hS.2.2 dX4_server_41
    · skip
      have i_3 : 1 ≤ a1.toInt := by have h9 := pz_nlt c_3; exact h9
      refine lv_iload_n hx hb dX4_server_19 rfl (lv_at hl 3 rfl) ?_
      refine lv_iconst (v := 1) hx hb dX4_server_20 (by decide) ?_
      refine lv_icmp_lt (tgt := 35) hx hb dX4_server_21 (by decide) (fun c_5 => ?_) (fun c_5 => ?_)
      · skip
        have i_5 : a3.toInt < 1 := by have h9 := pz_lt c_5; exact h9
        refine lv_aload_n hx hb dX4_server_35 rfl (lv_at hl 0 rfl) ?_
        refine lv_bipush (v := (-4)) hx hb dX4_server_36 (by decide) ?_
        have hPc := hP.sub (ws' := (gW h0 R C I F)) [0, 1, 2, 3, 4, 5, 6, 7, 8, 9, 10, 11, 12, 13, 14, 15, 16, 17, 18, 19, 20, 21, 22, 23, 24, 25, 26, 27, 28, 29, 30, 31, 32] rfl
        have hDc := hD.sub (ws' := (gW h0 R C I F)) [0, 1, 2, 3, 4, 5, 6, 7, 8, 9, 10, 11, 12, 13, 14, 15, 16, 17, 18, 19, 20, 21, 22, 23, 24, 25, 26, 27, 28, 29, 30, 31, 32] (by decide) rfl
        have hKc := hK.sub (tys' := (gT C)) [0, 1, 2, 3, 4, 5, 6, 7, 8, 9, 10, 11, 12, 13, 14, 15, 16, 17, 18, 19, 20, 21, 22, 23, 24, 25, 26, 27, 28, 29, 30, 31] rfl
        have hFc := va_free (wc := (gW h0 R C I F)) hD hS hA [0, 1, 2, 3, 4, 5, 6, 7, 8, 9, 10, 11, 12, 13, 14, 15, 16, 17, 18, 19, 20, 21, 22, 23, 24, 25, 26, 27, 28, 29, 30, 31, 32] rfl
        refine va_calli (va_runV (As := [.int (-4)]) (rest := []) ⟨hx, hb, hml, hown, hts⟩ (m_X4_refuse4 l dC dI h0 R C I F H.size) (cwV 1 hts gX4_server_X4_refuse rfl rfl rfl (by decide +kernel) ⟨Nat.le_of_ble_eq_true rfl, Nat.le_of_ble_eq_true rfl⟩) ⟨pz_blind, va_recv hKc hPc (ci := 5) (q0 := 0) rfl rfl, fun U hU hW => ⟨rfl, pz_at hPc hKc hDc hU hW⟩⟩ rfl rfl hl.1 rfl (lv_room (Nat.le_of_ble_eq_true rfl)) dX4_server_38 ⟨Nat.le_of_ble_eq_true rfl, Nat.le_of_ble_eq_true rfl⟩) hS (fun q _ h => hFc q h) hFc (fun r_6 u t H locs ht hvm hw hB hz1 hk1 hS => ?_)
        obtain ⟨I_6, F_6⟩ := u
        obtain ⟨hP1, hK1, hD1⟩ := hB
        rw [ht] at hP1
        try dsimp only at hw
        have hP := hP1
        have hD := hD1.weaken (fun _ _ _ h9 => hFc _ h9)
        have hP : va_P (dC, dI) vwCl (gW h0 R C I_6 F_6) H := hP
        have hD : va_D A (gW h0 R C I_6 F_6) := hD
        have hr8 : r_6 = (-4) := hw.1
        subst hr8
        exact W.iret (v := (-4)) hx hb hr (fun t ht hW => ⟨⟨(-4), (I_6, F_6), rfl, (by first | (refine ⟨?_, fun k h0 h1 h2 => ?_⟩; { (repeat' split) <;> first | exact ⟨rfl, rfl⟩ | (exfalso; omega) }; { simp only [va_up]; (repeat' split) <;> first | rfl | (exfalso; omega) }) | (obtain ⟨-, w1, w2⟩ := hw; subst w1; refine ⟨?_, fun k h0 _ _ => w2 k h0⟩; (repeat' split) <;> first | exact ⟨rfl, rfl⟩ | (exfalso; omega))), by rw [ht]; exact hP, va_K.moved hW.alike hK, hD⟩, hS.F ht⟩) hS.2.2 dX4_server_41
      · skip
        have i_5 : 1 ≤ a3.toInt := by have h9 := pz_nlt c_5; exact h9
        refine lv_iload hx hb dX4_server_24 (lv_at hl 4 rfl) ?_
        refine lv_iconst (v := 1) hx hb dX4_server_26 (by decide) ?_
        refine lv_icmp_lt (tgt := 35) hx hb dX4_server_27 (by decide) (fun c_7 => ?_) (fun c_7 => ?_)
        · skip
          have i_7 : a4.toInt < 1 := by have h9 := pz_lt c_7; exact h9
          refine lv_aload_n hx hb dX4_server_35 rfl (lv_at hl 0 rfl) ?_
          refine lv_bipush (v := (-4)) hx hb dX4_server_36 (by decide) ?_
          have hPc := hP.sub (ws' := (gW h0 R C I F)) [0, 1, 2, 3, 4, 5, 6, 7, 8, 9, 10, 11, 12, 13, 14, 15, 16, 17, 18, 19, 20, 21, 22, 23, 24, 25, 26, 27, 28, 29, 30, 31, 32] rfl
          have hDc := hD.sub (ws' := (gW h0 R C I F)) [0, 1, 2, 3, 4, 5, 6, 7, 8, 9, 10, 11, 12, 13, 14, 15, 16, 17, 18, 19, 20, 21, 22, 23, 24, 25, 26, 27, 28, 29, 30, 31, 32] (by decide) rfl
          have hKc := hK.sub (tys' := (gT C)) [0, 1, 2, 3, 4, 5, 6, 7, 8, 9, 10, 11, 12, 13, 14, 15, 16, 17, 18, 19, 20, 21, 22, 23, 24, 25, 26, 27, 28, 29, 30, 31] rfl
          have hFc := va_free (wc := (gW h0 R C I F)) hD hS hA [0, 1, 2, 3, 4, 5, 6, 7, 8, 9, 10, 11, 12, 13, 14, 15, 16, 17, 18, 19, 20, 21, 22, 23, 24, 25, 26, 27, 28, 29, 30, 31, 32] rfl
          refine va_calli (va_runV (As := [.int (-4)]) (rest := []) ⟨hx, hb, hml, hown, hts⟩ (m_X4_refuse4 l dC dI h0 R C I F H.size) (cwV 1 hts gX4_server_X4_refuse rfl rfl rfl (by decide +kernel) ⟨Nat.le_of_ble_eq_true rfl, Nat.le_of_ble_eq_true rfl⟩) ⟨pz_blind, va_recv hKc hPc (ci := 5) (q0 := 0) rfl rfl, fun U hU hW => ⟨rfl, pz_at hPc hKc hDc hU hW⟩⟩ rfl rfl hl.1 rfl (lv_room (Nat.le_of_ble_eq_true rfl)) dX4_server_38 ⟨Nat.le_of_ble_eq_true rfl, Nat.le_of_ble_eq_true rfl⟩) hS (fun q _ h => hFc q h) hFc (fun r_8 u t H locs ht hvm hw hB hz1 hk1 hS => ?_)
          obtain ⟨I_8, F_8⟩ := u
          obtain ⟨hP1, hK1, hD1⟩ := hB
          rw [ht] at hP1
          try dsimp only at hw
          have hP := hP1
          have hD := hD1.weaken (fun _ _ _ h9 => hFc _ h9)
          have hP : va_P (dC, dI) vwCl (gW h0 R C I_8 F_8) H := hP
          have hD : va_D A (gW h0 R C I_8 F_8) := hD
          have hr8 : r_8 = (-4) := hw.1
          subst hr8
          exact W.iret (v := (-4)) hx hb hr (fun t ht hW => ⟨⟨(-4), (I_8, F_8), rfl, (by first | (refine ⟨?_, fun k h0 h1 h2 => ?_⟩; { (repeat' split) <;> first | exact ⟨rfl, rfl⟩ | (exfalso; omega) }; { simp only [va_up]; (repeat' split) <;> first | rfl | (exfalso; omega) }) | (obtain ⟨-, w1, w2⟩ := hw; subst w1; refine ⟨?_, fun k h0 _ _ => w2 k h0⟩; (repeat' split) <;> first | exact ⟨rfl, rfl⟩ | (exfalso; omega))), by rw [ht]; exact hP, va_K.moved hW.alike hK, hD⟩, hS.F ht⟩) hS.2.2 dX4_server_41
        · skip
          have i_7 : 1 ≤ a4.toInt := by have h9 := pz_nlt c_7; exact h9
          refine lv_iload hx hb dX4_server_30 (lv_at hl 5 rfl) ?_
          refine lv_if_ge (tgt := 42) hx hb dX4_server_32 (by decide) (fun c_9 => ?_) (fun c_9 => ?_)
          · skip
            have i_9 : 0 ≤ a5.toInt := by have h9 := pz_ge c_9; exact h9
            refine lv_iload_n hx hb dX4_server_42 rfl (lv_at hl 1 rfl) ?_
            refine lv_bipush (v := 100) hx hb dX4_server_43 (by decide) ?_
            refine lv_icmp_gt (tgt := 78) hx hb dX4_server_45 (by decide) (fun c_10 => ?_) (fun c_10 => ?_)
            · skip
              have i_10 : 100 < a1.toInt := by have h9 := pz_gt c_10; exact h9
              refine lv_aload_n hx hb dX4_server_78 rfl (lv_at hl 0 rfl) ?_
              refine lv_bipush (v := (-6)) hx hb dX4_server_79 (by decide) ?_
              have hPc := hP.sub (ws' := (gW h0 R C I F)) [0, 1, 2, 3, 4, 5, 6, 7, 8, 9, 10, 11, 12, 13, 14, 15, 16, 17, 18, 19, 20, 21, 22, 23, 24, 25, 26, 27, 28, 29, 30, 31, 32] rfl
              have hDc := hD.sub (ws' := (gW h0 R C I F)) [0, 1, 2, 3, 4, 5, 6, 7, 8, 9, 10, 11, 12, 13, 14, 15, 16, 17, 18, 19, 20, 21, 22, 23, 24, 25, 26, 27, 28, 29, 30, 31, 32] (by decide) rfl
              have hKc := hK.sub (tys' := (gT C)) [0, 1, 2, 3, 4, 5, 6, 7, 8, 9, 10, 11, 12, 13, 14, 15, 16, 17, 18, 19, 20, 21, 22, 23, 24, 25, 26, 27, 28, 29, 30, 31] rfl
              have hFc := va_free (wc := (gW h0 R C I F)) hD hS hA [0, 1, 2, 3, 4, 5, 6, 7, 8, 9, 10, 11, 12, 13, 14, 15, 16, 17, 18, 19, 20, 21, 22, 23, 24, 25, 26, 27, 28, 29, 30, 31, 32] rfl
              refine va_calli (va_runV (As := [.int (-6)]) (rest := []) ⟨hx, hb, hml, hown, hts⟩ (m_X4_refuse6 l dC dI h0 R C I F H.size) (cwV 1 hts gX4_server_X4_refuse rfl rfl rfl (by decide +kernel) ⟨Nat.le_of_ble_eq_true rfl, Nat.le_of_ble_eq_true rfl⟩) ⟨pz_blind, va_recv hKc hPc (ci := 5) (q0 := 0) rfl rfl, fun U hU hW => ⟨rfl, pz_at hPc hKc hDc hU hW⟩⟩ rfl rfl hl.1 rfl (lv_room (Nat.le_of_ble_eq_true rfl)) dX4_server_81 ⟨Nat.le_of_ble_eq_true rfl, Nat.le_of_ble_eq_true rfl⟩) hS (fun q _ h => hFc q h) hFc (fun r_11 u t H locs ht hvm hw hB hz1 hk1 hS => ?_)
              obtain ⟨I_11, F_11⟩ := u
              obtain ⟨hP1, hK1, hD1⟩ := hB
              rw [ht] at hP1
              try dsimp only at hw
              have hP := hP1
              have hD := hD1.weaken (fun _ _ _ h9 => hFc _ h9)
              have hP : va_P (dC, dI) vwCl (gW h0 R C I_11 F_11) H := hP
              have hD : va_D A (gW h0 R C I_11 F_11) := hD
              have hr8 : r_11 = (-6) := hw.1
              subst hr8
              exact W.iret (v := (-6)) hx hb hr (fun t ht hW => ⟨⟨(-6), (I_11, F_11), rfl, (by first | (refine ⟨?_, fun k h0 h1 h2 => ?_⟩; { (repeat' split) <;> first | exact ⟨rfl, rfl⟩ | (exfalso; omega) }; { simp only [va_up]; (repeat' split) <;> first | rfl | (exfalso; omega) }) | (obtain ⟨-, w1, w2⟩ := hw; subst w1; refine ⟨?_, fun k h0 _ _ => w2 k h0⟩; (repeat' split) <;> first | exact ⟨rfl, rfl⟩ | (exfalso; omega))), by rw [ht]; exact hP, va_K.moved hW.alike hK, hD⟩, hS.F ht⟩) hS.2.2 dX4_server_84
            · skip
              have i_10 : a1.toInt ≤ 100 := by have h9 := pz_ngt c_10; exact h9
              refine lv_iload_n hx hb dX4_server_48 rfl (lv_at hl 3 rfl) ?_
              refine lv_bipush (v := 20) hx hb dX4_server_49 (by decide) ?_
              refine lv_icmp_gt (tgt := 78) hx hb dX4_server_51 (by decide) (fun c_12 => ?_) (fun c_12 => ?_)
              · skip
                have i_12 : 20 < a3.toInt := by have h9 := pz_gt c_12; exact h9
                refine lv_aload_n hx hb dX4_server_78 rfl (lv_at hl 0 rfl) ?_
                refine lv_bipush (v := (-6)) hx hb dX4_server_79 (by decide) ?_
                have hPc := hP.sub (ws' := (gW h0 R C I F)) [0, 1, 2, 3, 4, 5, 6, 7, 8, 9, 10, 11, 12, 13, 14, 15, 16, 17, 18, 19, 20, 21, 22, 23, 24, 25, 26, 27, 28, 29, 30, 31, 32] rfl
                have hDc := hD.sub (ws' := (gW h0 R C I F)) [0, 1, 2, 3, 4, 5, 6, 7, 8, 9, 10, 11, 12, 13, 14, 15, 16, 17, 18, 19, 20, 21, 22, 23, 24, 25, 26, 27, 28, 29, 30, 31, 32] (by decide) rfl
                have hKc := hK.sub (tys' := (gT C)) [0, 1, 2, 3, 4, 5, 6, 7, 8, 9, 10, 11, 12, 13, 14, 15, 16, 17, 18, 19, 20, 21, 22, 23, 24, 25, 26, 27, 28, 29, 30, 31] rfl
                have hFc := va_free (wc := (gW h0 R C I F)) hD hS hA [0, 1, 2, 3, 4, 5, 6, 7, 8, 9, 10, 11, 12, 13, 14, 15, 16, 17, 18, 19, 20, 21, 22, 23, 24, 25, 26, 27, 28, 29, 30, 31, 32] rfl
                refine va_calli (va_runV (As := [.int (-6)]) (rest := []) ⟨hx, hb, hml, hown, hts⟩ (m_X4_refuse6 l dC dI h0 R C I F H.size) (cwV 1 hts gX4_server_X4_refuse rfl rfl rfl (by decide +kernel) ⟨Nat.le_of_ble_eq_true rfl, Nat.le_of_ble_eq_true rfl⟩) ⟨pz_blind, va_recv hKc hPc (ci := 5) (q0 := 0) rfl rfl, fun U hU hW => ⟨rfl, pz_at hPc hKc hDc hU hW⟩⟩ rfl rfl hl.1 rfl (lv_room (Nat.le_of_ble_eq_true rfl)) dX4_server_81 ⟨Nat.le_of_ble_eq_true rfl, Nat.le_of_ble_eq_true rfl⟩) hS (fun q _ h => hFc q h) hFc (fun r_13 u t H locs ht hvm hw hB hz1 hk1 hS => ?_)
                obtain ⟨I_13, F_13⟩ := u
                obtain ⟨hP1, hK1, hD1⟩ := hB
                rw [ht] at hP1
                try dsimp only at hw
                have hP := hP1
                have hD := hD1.weaken (fun _ _ _ h9 => hFc _ h9)
                have hP : va_P (dC, dI) vwCl (gW h0 R C I_13 F_13) H := hP
                have hD : va_D A (gW h0 R C I_13 F_13) := hD
                have hr8 : r_13 = (-6) := hw.1
                subst hr8
                exact W.iret (v := (-6)) hx hb hr (fun t ht hW => ⟨⟨(-6), (I_13, F_13), rfl, (by first | (refine ⟨?_, fun k h0 h1 h2 => ?_⟩; { (repeat' split) <;> first | exact ⟨rfl, rfl⟩ | (exfalso; omega) }; { simp only [va_up]; (repeat' split) <;> first | rfl | (exfalso; omega) }) | (obtain ⟨-, w1, w2⟩ := hw; subst w1; refine ⟨?_, fun k h0 _ _ => w2 k h0⟩; (repeat' split) <;> first | exact ⟨rfl, rfl⟩ | (exfalso; omega))), by rw [ht]; exact hP, va_K.moved hW.alike hK, hD⟩, hS.F ht⟩) hS.2.2 dX4_server_84
              · skip
                have i_12 : a3.toInt ≤ 20 := by have h9 := pz_ngt c_12; exact h9
                refine lv_iload hx hb dX4_server_54 (lv_at hl 4 rfl) ?_
                refine lv_sipush (v := 200) hx hb dX4_server_56 (by decide) ?_
                refine lv_icmp_gt (tgt := 78) hx hb dX4_server_59 (by decide) (fun c_14 => ?_) (fun c_14 => ?_)
                · skip
                  have i_14 : 200 < a4.toInt := by have h9 := pz_gt c_14; exact h9
                  refine lv_aload_n hx hb dX4_server_78 rfl (lv_at hl 0 rfl) ?_
                  refine lv_bipush (v := (-6)) hx hb dX4_server_79 (by decide) ?_
                  have hPc := hP.sub (ws' := (gW h0 R C I F)) [0, 1, 2, 3, 4, 5, 6, 7, 8, 9, 10, 11, 12, 13, 14, 15, 16, 17, 18, 19, 20, 21, 22, 23, 24, 25, 26, 27, 28, 29, 30, 31, 32] rfl
                  have hDc := hD.sub (ws' := (gW h0 R C I F)) [0, 1, 2, 3, 4, 5, 6, 7, 8, 9, 10, 11, 12, 13, 14, 15, 16, 17, 18, 19, 20, 21, 22, 23, 24, 25, 26, 27, 28, 29, 30, 31, 32] (by decide) rfl
                  have hKc := hK.sub (tys' := (gT C)) [0, 1, 2, 3, 4, 5, 6, 7, 8, 9, 10, 11, 12, 13, 14, 15, 16, 17, 18, 19, 20, 21, 22, 23, 24, 25, 26, 27, 28, 29, 30, 31] rfl
                  have hFc := va_free (wc := (gW h0 R C I F)) hD hS hA [0, 1, 2, 3, 4, 5, 6, 7, 8, 9, 10, 11, 12, 13, 14, 15, 16, 17, 18, 19, 20, 21, 22, 23, 24, 25, 26, 27, 28, 29, 30, 31, 32] rfl
                  refine va_calli (va_runV (As := [.int (-6)]) (rest := []) ⟨hx, hb, hml, hown, hts⟩ (m_X4_refuse6 l dC dI h0 R C I F H.size) (cwV 1 hts gX4_server_X4_refuse rfl rfl rfl (by decide +kernel) ⟨Nat.le_of_ble_eq_true rfl, Nat.le_of_ble_eq_true rfl⟩) ⟨pz_blind, va_recv hKc hPc (ci := 5) (q0 := 0) rfl rfl, fun U hU hW => ⟨rfl, pz_at hPc hKc hDc hU hW⟩⟩ rfl rfl hl.1 rfl (lv_room (Nat.le_of_ble_eq_true rfl)) dX4_server_81 ⟨Nat.le_of_ble_eq_true rfl, Nat.le_of_ble_eq_true rfl⟩) hS (fun q _ h => hFc q h) hFc (fun r_15 u t H locs ht hvm hw hB hz1 hk1 hS => ?_)
                  obtain ⟨I_15, F_15⟩ := u
                  obtain ⟨hP1, hK1, hD1⟩ := hB
                  rw [ht] at hP1
                  try dsimp only at hw
                  have hP := hP1
                  have hD := hD1.weaken (fun _ _ _ h9 => hFc _ h9)
                  have hP : va_P (dC, dI) vwCl (gW h0 R C I_15 F_15) H := hP
                  have hD : va_D A (gW h0 R C I_15 F_15) := hD
                  have hr8 : r_15 = (-6) := hw.1
                  subst hr8
                  exact W.iret (v := (-6)) hx hb hr (fun t ht hW => ⟨⟨(-6), (I_15, F_15), rfl, (by first | (refine ⟨?_, fun k h0 h1 h2 => ?_⟩; { (repeat' split) <;> first | exact ⟨rfl, rfl⟩ | (exfalso; omega) }; { simp only [va_up]; (repeat' split) <;> first | rfl | (exfalso; omega) }) | (obtain ⟨-, w1, w2⟩ := hw; subst w1; refine ⟨?_, fun k h0 _ _ => w2 k h0⟩; (repeat' split) <;> first | exact ⟨rfl, rfl⟩ | (exfalso; omega))), by rw [ht]; exact hP, va_K.moved hW.alike hK, hD⟩, hS.F ht⟩) hS.2.2 dX4_server_84
                · skip
                  have i_14 : a4.toInt ≤ 200 := by have h9 := pz_ngt c_14; exact h9
                  refine lv_iload hx hb dX4_server_62 (lv_at hl 5 rfl) ?_
                  refine lv_bipush (v := 20) hx hb dX4_server_64 (by decide) ?_
                  refine lv_icmp_gt (tgt := 78) hx hb dX4_server_66 (by decide) (fun c_16 => ?_) (fun c_16 => ?_)
                  · skip
                    have i_16 : 20 < a5.toInt := by have h9 := pz_gt c_16; exact h9
                    refine lv_aload_n hx hb dX4_server_78 rfl (lv_at hl 0 rfl) ?_
                    refine lv_bipush (v := (-6)) hx hb dX4_server_79 (by decide) ?_
                    have hPc := hP.sub (ws' := (gW h0 R C I F)) [0, 1, 2, 3, 4, 5, 6, 7, 8, 9, 10, 11, 12, 13, 14, 15, 16, 17, 18, 19, 20, 21, 22, 23, 24, 25, 26, 27, 28, 29, 30, 31, 32] rfl
                    have hDc := hD.sub (ws' := (gW h0 R C I F)) [0, 1, 2, 3, 4, 5, 6, 7, 8, 9, 10, 11, 12, 13, 14, 15, 16, 17, 18, 19, 20, 21, 22, 23, 24, 25, 26, 27, 28, 29, 30, 31, 32] (by decide) rfl
                    have hKc := hK.sub (tys' := (gT C)) [0, 1, 2, 3, 4, 5, 6, 7, 8, 9, 10, 11, 12, 13, 14, 15, 16, 17, 18, 19, 20, 21, 22, 23, 24, 25, 26, 27, 28, 29, 30, 31] rfl
                    have hFc := va_free (wc := (gW h0 R C I F)) hD hS hA [0, 1, 2, 3, 4, 5, 6, 7, 8, 9, 10, 11, 12, 13, 14, 15, 16, 17, 18, 19, 20, 21, 22, 23, 24, 25, 26, 27, 28, 29, 30, 31, 32] rfl
                    refine va_calli (va_runV (As := [.int (-6)]) (rest := []) ⟨hx, hb, hml, hown, hts⟩ (m_X4_refuse6 l dC dI h0 R C I F H.size) (cwV 1 hts gX4_server_X4_refuse rfl rfl rfl (by decide +kernel) ⟨Nat.le_of_ble_eq_true rfl, Nat.le_of_ble_eq_true rfl⟩) ⟨pz_blind, va_recv hKc hPc (ci := 5) (q0 := 0) rfl rfl, fun U hU hW => ⟨rfl, pz_at hPc hKc hDc hU hW⟩⟩ rfl rfl hl.1 rfl (lv_room (Nat.le_of_ble_eq_true rfl)) dX4_server_81 ⟨Nat.le_of_ble_eq_true rfl, Nat.le_of_ble_eq_true rfl⟩) hS (fun q _ h => hFc q h) hFc (fun r_17 u t H locs ht hvm hw hB hz1 hk1 hS => ?_)
                    obtain ⟨I_17, F_17⟩ := u
                    obtain ⟨hP1, hK1, hD1⟩ := hB
                    rw [ht] at hP1
                    try dsimp only at hw
                    have hP := hP1
                    have hD := hD1.weaken (fun _ _ _ h9 => hFc _ h9)
                    have hP : va_P (dC, dI) vwCl (gW h0 R C I_17 F_17) H := hP
                    have hD : va_D A (gW h0 R C I_17 F_17) := hD
                    have hr8 : r_17 = (-6) := hw.1
                    subst hr8
                    exact W.iret (v := (-6)) hx hb hr (fun t ht hW => ⟨⟨(-6), (I_17, F_17), rfl, (by first | (refine ⟨?_, fun k h0 h1 h2 => ?_⟩; { (repeat' split) <;> first | exact ⟨rfl, rfl⟩ | (exfalso; omega) }; { simp only [va_up]; (repeat' split) <;> first | rfl | (exfalso; omega) }) | (obtain ⟨-, w1, w2⟩ := hw; subst w1; refine ⟨?_, fun k h0 _ _ => w2 k h0⟩; (repeat' split) <;> first | exact ⟨rfl, rfl⟩ | (exfalso; omega))), by rw [ht]; exact hP, va_K.moved hW.alike hK, hD⟩, hS.F ht⟩) hS.2.2 dX4_server_84
                  · skip
                    have i_16 : a5.toInt ≤ 20 := by have h9 := pz_ngt c_16; exact h9
                    refine lv_aload_n hx hb dX4_server_69 rfl (lv_at hl 0 rfl) ?_
                    refine va_get (D := (dC, dI)) (ci := 5) (v := .int (I 2)) (C := RX4) (T := TX4) (N := 43) hx hb hts (fun _ h => List.mem_cons_of_mem _ (List.mem_append_right _ h)) hown hK hP 0 rfl rfl 2 (by decide) (hts (.fieldLink RX4 114 "FrontDoorModel" "servers" "I") (by decide +kernel)) (fun _ h9 => h9) rfl dX4_server_70 ?_
                    refine lv_topi (fun x_18 ex_18 => ?_)
                    obtain rfl : x_18 = (nI ns) := ex_18.trans hns
                    refine lv_bipush (v := 8) hx hb dX4_server_73 (by decide) ?_
                    refine lv_icmp_ne (tgt := 85) hx hb dX4_server_75 (by decide) (fun c_19 => ?_) (fun c_19 => ?_)
                    · skip
                      have i_19 : ¬ (nI ns).toInt = 8 := by have h9 := pz_neq c_19; exact h9
                      refine lv_aload_n hx hb dX4_server_85 rfl (lv_at hl 0 rfl) ?_
                      refine va_get (D := (dC, dI)) (ci := 5) (v := .int (I 2)) (C := RX4) (T := TX4) (N := 43) hx hb hts (fun _ h => List.mem_cons_of_mem _ (List.mem_append_right _ h)) hown hK hP 0 rfl rfl 2 (by decide) (hts (.fieldLink RX4 114 "FrontDoorModel" "servers" "I") (by decide +kernel)) (fun _ h9 => h9) rfl dX4_server_86 ?_
                      refine lv_topi (fun x_20 ex_20 => ?_)
                      obtain rfl : x_20 = (nI ns) := ex_20.trans hns
                      refine lv_istore (lv' := [(6, .int (nI ns)), (0, .ref h0), (1, .int a1), (2, .int a2), (3, .int a3), (4, .int a4), (5, .int a5)]) hx hb dX4_server_89 hl (by decide) rfl (fun ls hl => ?_)
                      refine lv_aload_n hx hb dX4_server_91 rfl (lv_at hl 1 rfl) ?_
                      refine lv_dup hx hb dX4_server_92 rfl ?_
                      refine va_get (D := (dC, dI)) (ci := 5) (v := .int (I 2)) (C := RX4) (T := TX4) (N := 43) hx hb hts (fun _ h => List.mem_cons_of_mem _ (List.mem_append_right _ h)) hown hK hP 0 rfl rfl 2 (by decide) (hts (.fieldLink RX4 114 "FrontDoorModel" "servers" "I") (by decide +kernel)) (fun _ h9 => h9) rfl dX4_server_93 ?_
                      refine lv_topi (fun x_21 ex_21 => ?_)
                      obtain rfl : x_21 = (nI ns) := ex_21.trans hns
                      refine lv_iconst (v := 1) hx hb dX4_server_96 (by decide) ?_
                      refine lv_iadd hx hb dX4_server_97 ?_
                      refine lv_topi (fun x_22 ex_22 => ?_)
                      obtain rfl : x_22 = (nI (ns + 1)) := ex_22.trans (nI_add ns 1)
                      refine va_put (D := (dC, dI)) (ci := 5) (v := .int (nI (ns + 1))) (ty := .int) (C := RX4) (T := TX4) (N := 43) hx hb hts (fun _ h => List.mem_cons_of_mem _ (List.mem_append_right _ h)) tyX4 tyX4_ok nmX4 hown hK hP hD hS 0 rfl rfl 2 (by decide) (hts (.fieldLink RX4 114 "FrontDoorModel" "servers" "I") (by decide +kernel)) (fun _ h9 => h9) rfl (by decide +kernel) rfl rfl (Nat.le_of_ble_eq_true rfl) dX4_server_98 (fun H locs hP hD hS => ?_)
                      have hP : va_P (dC, dI) vwCl (gW h0 R C (va_up I 2 (nI (ns + 1))) F) H := hP
                      have hD : va_D A (gW h0 R C (va_up I 2 (nI (ns + 1))) F) := hD
                      refine lv_aload_n hx hb dX4_server_101 rfl (lv_at hl 1 rfl) ?_
                      refine va_get (D := (dC, dI)) (ci := 5) (v := .ref (R 11)) (C := RX4) (T := TX4) (N := 43) hx hb hts (fun _ h => List.mem_cons_of_mem _ (List.mem_append_right _ h)) hown hK hP 0 rfl rfl 11 (by decide) (hts (.fieldLink RX4 20 "FrontDoorModel" "weight" "[I") (by decide +kernel)) (fun _ h9 => h9) rfl dX4_server_102 ?_
                      refine lv_iload hx hb dX4_server_105 (lv_at hl 0 rfl) ?_
                      refine lv_iload_n hx hb dX4_server_107 rfl (lv_at hl 2 rfl) ?_
                      refine va_iast hx hb hK hP hD hS 2 1 rfl rfl (vp_in_nI (by omega) (by decide)) dX4_server_108 (fun H locs hP hD hS => ?_)
                      have hP : va_P (dC, dI) vwCl (gW h0 R C (va_up I 2 (nI (ns + 1))) (va_up F 11 (upd (F 11) (Int32.toNatClampNeg (nI ns)) a1))) H := hP
                      have hD : va_D A (gW h0 R C (va_up I 2 (nI (ns + 1))) (va_up F 11 (upd (F 11) (Int32.toNatClampNeg (nI ns)) a1))) := hD
                      refine lv_aload_n hx hb dX4_server_109 rfl (lv_at hl 1 rfl) ?_
                      refine va_get (D := (dC, dI)) (ci := 5) (v := .ref (R 12)) (C := RX4) (T := TX4) (N := 43) hx hb hts (fun _ h => List.mem_cons_of_mem _ (List.mem_append_right _ h)) hown hK hP 0 rfl rfl 12 (by decide) (hts (.fieldLink RX4 23 "FrontDoorModel" "zone" "[I") (by decide +kernel)) (fun _ h9 => h9) rfl dX4_server_110 ?_
                      refine lv_iload hx hb dX4_server_113 (lv_at hl 0 rfl) ?_
                      refine lv_iload_n hx hb dX4_server_115 rfl (lv_at hl 3 rfl) ?_
                      refine va_iast hx hb hK hP hD hS 3 2 rfl rfl (vp_in_nI (by omega) (by decide)) dX4_server_116 (fun H locs hP hD hS => ?_)
                      have hP : va_P (dC, dI) vwCl (gW h0 R C (va_up I 2 (nI (ns + 1))) (va_up (va_up F 11 (upd (F 11) (Int32.toNatClampNeg (nI ns)) a1)) 12 (upd (F 12) (Int32.toNatClampNeg (nI ns)) a2))) H := hP
                      have hD : va_D A (gW h0 R C (va_up I 2 (nI (ns + 1))) (va_up (va_up F 11 (upd (F 11) (Int32.toNatClampNeg (nI ns)) a1)) 12 (upd (F 12) (Int32.toNatClampNeg (nI ns)) a2))) := hD
                      refine lv_aload_n hx hb dX4_server_117 rfl (lv_at hl 1 rfl) ?_
                      refine va_get (D := (dC, dI)) (ci := 5) (v := .ref (R 13)) (C := RX4) (T := TX4) (N := 43) hx hb hts (fun _ h => List.mem_cons_of_mem _ (List.mem_append_right _ h)) hown hK hP 0 rfl rfl 13 (by decide) (hts (.fieldLink RX4 26 "FrontDoorModel" "room" "[I") (by decide +kernel)) (fun _ h9 => h9) rfl dX4_server_118 ?_
                      refine lv_iload hx hb dX4_server_121 (lv_at hl 0 rfl) ?_
                      refine lv_iload_n hx hb dX4_server_123 rfl (lv_at hl 4 rfl) ?_
                      refine va_iast hx hb hK hP hD hS 4 3 rfl rfl (vp_in_nI (by omega) (by decide)) dX4_server_124 (fun H locs hP hD hS => ?_)
                      have hP : va_P (dC, dI) vwCl (gW h0 R C (va_up I 2 (nI (ns + 1))) (va_up (va_up (va_up F 11 (upd (F 11) (Int32.toNatClampNeg (nI ns)) a1)) 12 (upd (F 12) (Int32.toNatClampNeg (nI ns)) a2)) 13 (upd (F 13) (Int32.toNatClampNeg (nI ns)) a3))) H := hP
                      have hD : va_D A (gW h0 R C (va_up I 2 (nI (ns + 1))) (va_up (va_up (va_up F 11 (upd (F 11) (Int32.toNatClampNeg (nI ns)) a1)) 12 (upd (F 12) (Int32.toNatClampNeg (nI ns)) a2)) 13 (upd (F 13) (Int32.toNatClampNeg (nI ns)) a3))) := hD
                      refine lv_aload_n hx hb dX4_server_125 rfl (lv_at hl 1 rfl) ?_
                      refine va_get (D := (dC, dI)) (ci := 5) (v := .ref (R 14)) (C := RX4) (T := TX4) (N := 43) hx hb hts (fun _ h => List.mem_cons_of_mem _ (List.mem_append_right _ h)) hown hK hP 0 rfl rfl 14 (by decide) (hts (.fieldLink RX4 29 "FrontDoorModel" "pace" "[I") (by decide +kernel)) (fun _ h9 => h9) rfl dX4_server_126 ?_
                      refine lv_iload hx hb dX4_server_129 (lv_at hl 0 rfl) ?_
                      refine lv_iload hx hb dX4_server_131 (lv_at hl 5 rfl) ?_
                      refine va_iast hx hb hK hP hD hS 5 4 rfl rfl (vp_in_nI (by omega) (by decide)) dX4_server_133 (fun H locs hP hD hS => ?_)
                      have hP : va_P (dC, dI) vwCl (gW h0 R C (va_up I 2 (nI (ns + 1))) (va_up (va_up (va_up (va_up F 11 (upd (F 11) (Int32.toNatClampNeg (nI ns)) a1)) 12 (upd (F 12) (Int32.toNatClampNeg (nI ns)) a2)) 13 (upd (F 13) (Int32.toNatClampNeg (nI ns)) a3)) 14 (upd (F 14) (Int32.toNatClampNeg (nI ns)) a4))) H := hP
                      have hD : va_D A (gW h0 R C (va_up I 2 (nI (ns + 1))) (va_up (va_up (va_up (va_up F 11 (upd (F 11) (Int32.toNatClampNeg (nI ns)) a1)) 12 (upd (F 12) (Int32.toNatClampNeg (nI ns)) a2)) 13 (upd (F 13) (Int32.toNatClampNeg (nI ns)) a3)) 14 (upd (F 14) (Int32.toNatClampNeg (nI ns)) a4))) := hD
                      refine lv_aload_n hx hb dX4_server_134 rfl (lv_at hl 1 rfl) ?_
                      refine va_get (D := (dC, dI)) (ci := 5) (v := .ref (R 15)) (C := RX4) (T := TX4) (N := 43) hx hb hts (fun _ h => List.mem_cons_of_mem _ (List.mem_append_right _ h)) hown hK hP 0 rfl rfl 15 (by decide) (hts (.fieldLink RX4 32 "FrontDoorModel" "breaks" "[I") (by decide +kernel)) (fun _ h9 => h9) rfl dX4_server_135 ?_
                      refine lv_iload hx hb dX4_server_138 (lv_at hl 0 rfl) ?_
                      refine lv_iload hx hb dX4_server_140 (lv_at hl 6 rfl) ?_
                      refine va_iast hx hb hK hP hD hS 6 5 rfl rfl (vp_in_nI (by omega) (by decide)) dX4_server_142 (fun H locs hP hD hS => ?_)
                      have hP : va_P (dC, dI) vwCl (gW h0 R C (va_up I 2 (nI (ns + 1))) (va_up (va_up (va_up (va_up (va_up F 11 (upd (F 11) (Int32.toNatClampNeg (nI ns)) a1)) 12 (upd (F 12) (Int32.toNatClampNeg (nI ns)) a2)) 13 (upd (F 13) (Int32.toNatClampNeg (nI ns)) a3)) 14 (upd (F 14) (Int32.toNatClampNeg (nI ns)) a4)) 15 (upd (F 15) (Int32.toNatClampNeg (nI ns)) a5))) H := hP
                      have hD : va_D A (gW h0 R C (va_up I 2 (nI (ns + 1))) (va_up (va_up (va_up (va_up (va_up F 11 (upd (F 11) (Int32.toNatClampNeg (nI ns)) a1)) 12 (upd (F 12) (Int32.toNatClampNeg (nI ns)) a2)) 13 (upd (F 13) (Int32.toNatClampNeg (nI ns)) a3)) 14 (upd (F 14) (Int32.toNatClampNeg (nI ns)) a4)) 15 (upd (F 15) (Int32.toNatClampNeg (nI ns)) a5))) := hD
                      refine lv_aload_n hx hb dX4_server_143 rfl (lv_at hl 1 rfl) ?_
                      refine va_get (D := (dC, dI)) (ci := 5) (v := .ref (R 24)) (C := RX4) (T := TX4) (N := 43) hx hb hts (fun _ h => List.mem_cons_of_mem _ (List.mem_append_right _ h)) hown hK hP 0 rfl rfl 24 (by decide) (hts (.fieldLink RX4 59 "FrontDoorModel" "penalty" "[I") (by decide +kernel)) (fun _ h9 => h9) rfl dX4_server_144 ?_
                      refine lv_iload hx hb dX4_server_147 (lv_at hl 0 rfl) ?_
                      refine lv_bipush (v := 10) hx hb dX4_server_149 (by decide) ?_
                      refine va_iast hx hb hK hP hD hS 15 14 rfl rfl (vp_in_nI (by omega) (by decide)) dX4_server_151 (fun H locs hP hD hS => ?_)
                      have hP : va_P (dC, dI) vwCl (gW h0 R C (va_up I 2 (nI (ns + 1))) (va_up (va_up (va_up (va_up (va_up (va_up F 11 (upd (F 11) (Int32.toNatClampNeg (nI ns)) a1)) 12 (upd (F 12) (Int32.toNatClampNeg (nI ns)) a2)) 13 (upd (F 13) (Int32.toNatClampNeg (nI ns)) a3)) 14 (upd (F 14) (Int32.toNatClampNeg (nI ns)) a4)) 15 (upd (F 15) (Int32.toNatClampNeg (nI ns)) a5)) 24 (upd (F 24) (Int32.toNatClampNeg (nI ns)) 10))) H := hP
                      have hD : va_D A (gW h0 R C (va_up I 2 (nI (ns + 1))) (va_up (va_up (va_up (va_up (va_up (va_up F 11 (upd (F 11) (Int32.toNatClampNeg (nI ns)) a1)) 12 (upd (F 12) (Int32.toNatClampNeg (nI ns)) a2)) 13 (upd (F 13) (Int32.toNatClampNeg (nI ns)) a3)) 14 (upd (F 14) (Int32.toNatClampNeg (nI ns)) a4)) 15 (upd (F 15) (Int32.toNatClampNeg (nI ns)) a5)) 24 (upd (F 24) (Int32.toNatClampNeg (nI ns)) 10))) := hD
                      refine lv_iload hx hb dX4_server_152 (lv_at hl 0 rfl) ?_
                      exact W.iret (v := (nI ns)) hx hb hr (fun t ht hW => ⟨⟨(nI ns), ((va_up I 2 (nI (ns + 1))), (va_up (va_up (va_up (va_up (va_up (va_up F 11 (upd (F 11) (Int32.toNatClampNeg (nI ns)) a1)) 12 (upd (F 12) (Int32.toNatClampNeg (nI ns)) a2)) 13 (upd (F 13) (Int32.toNatClampNeg (nI ns)) a3)) 14 (upd (F 14) (Int32.toNatClampNeg (nI ns)) a4)) 15 (upd (F 15) (Int32.toNatClampNeg (nI ns)) a5)) 24 (upd (F 24) (Int32.toNatClampNeg (nI ns)) 10))), rfl, (by first | (refine ⟨?_, fun k h0 h1 h2 => ?_⟩; { (repeat' split) <;> first | exact ⟨rfl, rfl⟩ | (exfalso; omega) }; { simp only [va_up]; (repeat' split) <;> first | rfl | (exfalso; omega) }) | (obtain ⟨-, w1, w2⟩ := hw; subst w1; refine ⟨?_, fun k h0 _ _ => w2 k h0⟩; (repeat' split) <;> first | exact ⟨rfl, rfl⟩ | (exfalso; omega))), by rw [ht]; exact hP, va_K.moved hW.alike hK, hD⟩, hS.F ht⟩) hS.2.2 dX4_server_154
                    · skip
                      have i_19 : (nI ns).toInt = 8 := by have h9 := pz_eq c_19; exact h9
                      refine lv_aload_n hx hb dX4_server_78 rfl (lv_at hl 0 rfl) ?_
                      refine lv_bipush (v := (-6)) hx hb dX4_server_79 (by decide) ?_
                      have hPc := hP.sub (ws' := (gW h0 R C I F)) [0, 1, 2, 3, 4, 5, 6, 7, 8, 9, 10, 11, 12, 13, 14, 15, 16, 17, 18, 19, 20, 21, 22, 23, 24, 25, 26, 27, 28, 29, 30, 31, 32] rfl
                      have hDc := hD.sub (ws' := (gW h0 R C I F)) [0, 1, 2, 3, 4, 5, 6, 7, 8, 9, 10, 11, 12, 13, 14, 15, 16, 17, 18, 19, 20, 21, 22, 23, 24, 25, 26, 27, 28, 29, 30, 31, 32] (by decide) rfl
                      have hKc := hK.sub (tys' := (gT C)) [0, 1, 2, 3, 4, 5, 6, 7, 8, 9, 10, 11, 12, 13, 14, 15, 16, 17, 18, 19, 20, 21, 22, 23, 24, 25, 26, 27, 28, 29, 30, 31] rfl
                      have hFc := va_free (wc := (gW h0 R C I F)) hD hS hA [0, 1, 2, 3, 4, 5, 6, 7, 8, 9, 10, 11, 12, 13, 14, 15, 16, 17, 18, 19, 20, 21, 22, 23, 24, 25, 26, 27, 28, 29, 30, 31, 32] rfl
                      refine va_calli (va_runV (As := [.int (-6)]) (rest := []) ⟨hx, hb, hml, hown, hts⟩ (m_X4_refuse6 l dC dI h0 R C I F H.size) (cwV 1 hts gX4_server_X4_refuse rfl rfl rfl (by decide +kernel) ⟨Nat.le_of_ble_eq_true rfl, Nat.le_of_ble_eq_true rfl⟩) ⟨pz_blind, va_recv hKc hPc (ci := 5) (q0 := 0) rfl rfl, fun U hU hW => ⟨rfl, pz_at hPc hKc hDc hU hW⟩⟩ rfl rfl hl.1 rfl (lv_room (Nat.le_of_ble_eq_true rfl)) dX4_server_81 ⟨Nat.le_of_ble_eq_true rfl, Nat.le_of_ble_eq_true rfl⟩) hS (fun q _ h => hFc q h) hFc (fun r_23 u t H locs ht hvm hw hB hz1 hk1 hS => ?_)
                      obtain ⟨I_23, F_23⟩ := u
                      obtain ⟨hP1, hK1, hD1⟩ := hB
                      rw [ht] at hP1
                      try dsimp only at hw
                      have hP := hP1
                      have hD := hD1.weaken (fun _ _ _ h9 => hFc _ h9)
                      have hP : va_P (dC, dI) vwCl (gW h0 R C I_23 F_23) H := hP
                      have hD : va_D A (gW h0 R C I_23 F_23) := hD
                      have hr8 : r_23 = (-6) := hw.1
                      subst hr8
                      exact W.iret (v := (-6)) hx hb hr (fun t ht hW => ⟨⟨(-6), (I_23, F_23), rfl, (by first | (refine ⟨?_, fun k h0 h1 h2 => ?_⟩; { (repeat' split) <;> first | exact ⟨rfl, rfl⟩ | (exfalso; omega) }; { simp only [va_up]; (repeat' split) <;> first | rfl | (exfalso; omega) }) | (obtain ⟨-, w1, w2⟩ := hw; subst w1; refine ⟨?_, fun k h0 _ _ => w2 k h0⟩; (repeat' split) <;> first | exact ⟨rfl, rfl⟩ | (exfalso; omega))), by rw [ht]; exact hP, va_K.moved hW.alike hK, hD⟩, hS.F ht⟩) hS.2.2 dX4_server_84
          · skip
            have i_9 : a5.toInt < 0 := by have h9 := pz_nge c_9; exact h9
            refine lv_aload_n hx hb dX4_server_35 rfl (lv_at hl 0 rfl) ?_
            refine lv_bipush (v := (-4)) hx hb dX4_server_36 (by decide) ?_
            have hPc := hP.sub (ws' := (gW h0 R C I F)) [0, 1, 2, 3, 4, 5, 6, 7, 8, 9, 10, 11, 12, 13, 14, 15, 16, 17, 18, 19, 20, 21, 22, 23, 24, 25, 26, 27, 28, 29, 30, 31, 32] rfl
            have hDc := hD.sub (ws' := (gW h0 R C I F)) [0, 1, 2, 3, 4, 5, 6, 7, 8, 9, 10, 11, 12, 13, 14, 15, 16, 17, 18, 19, 20, 21, 22, 23, 24, 25, 26, 27, 28, 29, 30, 31, 32] (by decide) rfl
            have hKc := hK.sub (tys' := (gT C)) [0, 1, 2, 3, 4, 5, 6, 7, 8, 9, 10, 11, 12, 13, 14, 15, 16, 17, 18, 19, 20, 21, 22, 23, 24, 25, 26, 27, 28, 29, 30, 31] rfl
            have hFc := va_free (wc := (gW h0 R C I F)) hD hS hA [0, 1, 2, 3, 4, 5, 6, 7, 8, 9, 10, 11, 12, 13, 14, 15, 16, 17, 18, 19, 20, 21, 22, 23, 24, 25, 26, 27, 28, 29, 30, 31, 32] rfl
            refine va_calli (va_runV (As := [.int (-4)]) (rest := []) ⟨hx, hb, hml, hown, hts⟩ (m_X4_refuse4 l dC dI h0 R C I F H.size) (cwV 1 hts gX4_server_X4_refuse rfl rfl rfl (by decide +kernel) ⟨Nat.le_of_ble_eq_true rfl, Nat.le_of_ble_eq_true rfl⟩) ⟨pz_blind, va_recv hKc hPc (ci := 5) (q0 := 0) rfl rfl, fun U hU hW => ⟨rfl, pz_at hPc hKc hDc hU hW⟩⟩ rfl rfl hl.1 rfl (lv_room (Nat.le_of_ble_eq_true rfl)) dX4_server_38 ⟨Nat.le_of_ble_eq_true rfl, Nat.le_of_ble_eq_true rfl⟩) hS (fun q _ h => hFc q h) hFc (fun r_24 u t H locs ht hvm hw hB hz1 hk1 hS => ?_)
            obtain ⟨I_24, F_24⟩ := u
            obtain ⟨hP1, hK1, hD1⟩ := hB
            rw [ht] at hP1
            try dsimp only at hw
            have hP := hP1
            have hD := hD1.weaken (fun _ _ _ h9 => hFc _ h9)
            have hP : va_P (dC, dI) vwCl (gW h0 R C I_24 F_24) H := hP
            have hD : va_D A (gW h0 R C I_24 F_24) := hD
            have hr8 : r_24 = (-4) := hw.1
            subst hr8
            exact W.iret (v := (-4)) hx hb hr (fun t ht hW => ⟨⟨(-4), (I_24, F_24), rfl, (by first | (refine ⟨?_, fun k h0 h1 h2 => ?_⟩; { (repeat' split) <;> first | exact ⟨rfl, rfl⟩ | (exfalso; omega) }; { simp only [va_up]; (repeat' split) <;> first | rfl | (exfalso; omega) }) | (obtain ⟨-, w1, w2⟩ := hw; subst w1; refine ⟨?_, fun k h0 _ _ => w2 k h0⟩; (repeat' split) <;> first | exact ⟨rfl, rfl⟩ | (exfalso; omega))), by rw [ht]; exact hP, va_K.moved hW.alike hK, hD⟩, hS.F ht⟩) hS.2.2 dX4_server_41
  · skip
    have hr9 : r_1 = 0 := hr9
    subst hr9
    have f_1_0 : (a2.toInt < 0 ∨ 4 ≤ a2.toInt) := f_1_0
    refine lv_if_ne (tgt := 14) hx hb dX4_server_5 (by decide) (fun c_25 => absurd c_25 (by decide)) (fun c_25 => ?_)
    refine lv_aload_n hx hb dX4_server_8 rfl (lv_at hl 0 rfl) ?_
    refine lv_iconst (v := (-1)) hx hb dX4_server_9 (by decide) ?_
    have hPc := hP.sub (ws' := (gW h0 R C I F)) [0, 1, 2, 3, 4, 5, 6, 7, 8, 9, 10, 11, 12, 13, 14, 15, 16, 17, 18, 19, 20, 21, 22, 23, 24, 25, 26, 27, 28, 29, 30, 31, 32] rfl
    have hDc := hD.sub (ws' := (gW h0 R C I F)) [0, 1, 2, 3, 4, 5, 6, 7, 8, 9, 10, 11, 12, 13, 14, 15, 16, 17, 18, 19, 20, 21, 22, 23, 24, 25, 26, 27, 28, 29, 30, 31, 32] (by decide) rfl
    have hKc := hK.sub (tys' := (gT C)) [0, 1, 2, 3, 4, 5, 6, 7, 8, 9, 10, 11, 12, 13, 14, 15, 16, 17, 18, 19, 20, 21, 22, 23, 24, 25, 26, 27, 28, 29, 30, 31] rfl
    have hFc := va_free (wc := (gW h0 R C I F)) hD hS hA [0, 1, 2, 3, 4, 5, 6, 7, 8, 9, 10, 11, 12, 13, 14, 15, 16, 17, 18, 19, 20, 21, 22, 23, 24, 25, 26, 27, 28, 29, 30, 31, 32] rfl
    refine va_calli (va_runV (As := [.int (-1)]) (rest := []) ⟨hx, hb, hml, hown, hts⟩ (m_X4_refuse1 l dC dI h0 R C I F H.size) (cwV 1 hts gX4_server_X4_refuse rfl rfl rfl (by decide +kernel) ⟨Nat.le_of_ble_eq_true rfl, Nat.le_of_ble_eq_true rfl⟩) ⟨pz_blind, va_recv hKc hPc (ci := 5) (q0 := 0) rfl rfl, fun U hU hW => ⟨rfl, pz_at hPc hKc hDc hU hW⟩⟩ rfl rfl hl.1 rfl (lv_room (Nat.le_of_ble_eq_true rfl)) dX4_server_10 ⟨Nat.le_of_ble_eq_true rfl, Nat.le_of_ble_eq_true rfl⟩) hS (fun q _ h => hFc q h) hFc (fun r_26 u t H locs ht hvm hw hB hz1 hk1 hS => ?_)
    obtain ⟨I_26, F_26⟩ := u
    obtain ⟨hP1, hK1, hD1⟩ := hB
    rw [ht] at hP1
    try dsimp only at hw
    have hP := hP1
    have hD := hD1.weaken (fun _ _ _ h9 => hFc _ h9)
    have hP : va_P (dC, dI) vwCl (gW h0 R C I_26 F_26) H := hP
    have hD : va_D A (gW h0 R C I_26 F_26) := hD
    have hr8 : r_26 = (-1) := hw.1
    subst hr8
    exact W.iret (v := (-1)) hx hb hr (fun t ht hW => ⟨⟨(-1), (I_26, F_26), rfl, (by first | (refine ⟨?_, fun k h0 h1 h2 => ?_⟩; { (repeat' split) <;> first | exact ⟨rfl, rfl⟩ | (exfalso; omega) }; { simp only [va_up]; (repeat' split) <;> first | rfl | (exfalso; omega) }) | (obtain ⟨-, w1, w2⟩ := hw; subst w1; refine ⟨?_, fun k h0 _ _ => w2 k h0⟩; (repeat' split) <;> first | exact ⟨rfl, rfl⟩ | (exfalso; omega))), by rw [ht]; exact hP, va_K.moved hW.alike hK, hD⟩, hS.F ht⟩) hS.2.2 dX4_server_13
end
section
set_option maxHeartbeats 40000000 in
set_option maxRecDepth 100000 in
theorem m_X4_inState (l : Launch) (dC : Nat → ClassId) (dI : Nat → Nat → Nat) (h0 : Nat) (R : Nat → Nat) (C : Nat → ClassId) (I : Nat → Int32) (F : Nat → Nat → Int32) (nc : Nat) (a1 : Int32) (sz : Nat) (hnc : I 3 = nI nc) (hbc : nc ≤ 200) : Met l yX4_inState wsX4_inState ({ frames := 0, cells := 0, slots := 0, locals := 0 }) (va_Pc [.ref h0, .int a1] (pzPre (dC, dI) vwCl (gW h0 R C I F) (gT C) sz)) (va_Qi (fun (r : Int32) (_ : Unit) => True) (fun _ _ => True) (va_A [] sz)) 0 0 (va_A [] sz) := by
  refine Met.ofW (cc := cX4_inState) (maxL := 4) (ret := (some .int)) (by decide) rfl ?_
  intro p e s m args below meth c s₁ B hml hv
  obtain ⟨rfl, hsz, hP, hK, hD0⟩ := hv
  have hx := B.exec
  have hb := B.bytes
  have hr := B.returns
  have hts := atoms_spec (ws := wsX4_inState) B.pre
  have hown : s.vm.findClass RX4 = some m.cls := findClass_of_methodNamed B.named
  have hlocks := B.notSynchronized
  subst hsz
  have hA : ∀ q : Nat, s.heap.size ≤ q → va_A [] s.heap.size q := fun q h => Or.inr h
  have hD := hD0
  generalize va_A [] s.heap.size = A at hA ⊢
  have hS : va_S A s.heap s.heap [] := va_S.rf
  have hP : va_P (dC, dI) vwCl (gW h0 R C I F) s.heap := hP
  have hncI : (nI nc).toInt = (nc : Int) := nI_toInt (by omega)
  have hl := lv_entry ([.ref h0, .int a1]) (n := 4) (Nat.le_of_ble_eq_true rfl)
  rw [lg_entry_eq]
  generalize (lg_sl ([.ref h0, .int a1]) ++ List.replicate (4 - (lg_sl ([.ref h0, .int a1])).length) Slot.unset).toArray = ls at hl ⊢
  have hl : lv_has ls 4 [(0, .ref h0), (1, .int a1)] := hl
  refine lv_iconst (v := 0) hx hb dX4_inState_0 (by decide) ?_
  refine lv_istore_n (lv' := [(2, .int 0), (0, .ref h0), (1, .int a1)]) hx hb dX4_inState_1 rfl hl (by decide) rfl (fun ls hl => ?_)
  refine lv_iconst (v := 0) hx hb dX4_inState_2 (by decide) ?_
  refine lv_istore_n (lv' := [(3, .int 0), (2, .int 0), (0, .ref h0), (1, .int a1)]) hx hb dX4_inState_3 rfl hl (by decide) rfl (fun ls hl => ?_)
  have loop_L4 : ∀ (k j_L4 : Nat) (n2 : Int32) (H : Heap) (locs : List Loc) (ls : Array Slot), j_L4 + k = nc → va_P (dC, dI) vwCl (gW h0 R C I F) H → va_S A s.heap H locs → lv_has ls 4 [(3, .int (nI j_L4)), (2, .int n2), (0, .ref h0), (1, .int a1)] → W p l e (headSpec wsX4_inState { frames := 0, cells := 0, slots := 0, locals := 0 }).room s m ([.ref h0, .int a1] : List Value).toArray below meth c H locs 0 0 (MQ below (va_Qi (fun (r : Int32) (_ : Unit) => True) (fun _ _ => True) A) ([.ref h0, .int a1] : List Value).toArray s 0 0 A) (F0 m 4 ls []) := by
    intro k
    induction k with
    | zero =>
      intro j_L4 n2 H locs ls hj_L4 hP hS hl
      refine lv_iload_n hx hb dX4_inState_4 rfl (lv_at hl 0 rfl) ?_
      refine lv_aload_n hx hb dX4_inState_5 rfl (lv_at hl 2 rfl) ?_
      refine va_get (D := (dC, dI)) (ci := 5) (v := .int (I 3)) (C := RX4) (T := TX4) (N := 43) hx hb hts (fun _ h => List.mem_cons_of_mem _ (List.mem_append_right _ h)) hown hK hP 0 rfl rfl 3 (by decide) (hts (.fieldLink RX4 121 "FrontDoorModel" "calls" "I") (by decide +kernel)) (fun _ h9 => h9) rfl dX4_inState_6 ?_
      refine lv_topi (fun x_1 ex_1 => ?_)
      obtain rfl : x_1 = (nI nc) := ex_1.trans hnc
      refine lv_icmp_ge (tgt := 36) hx hb dX4_inState_9 (by decide) (fun c_2 => ?_) (fun c_2 => absurd (nI_le (by omega) (by omega)) c_2)
      refine lv_iload_n hx hb dX4_inState_36 rfl (lv_at hl 1 rfl) ?_
      exact W.iret (v := n2) hx hb hr (fun t ht hW => ⟨⟨n2, (), rfl, trivial, trivial⟩, hS.F ht⟩) hS.2.2 dX4_inState_37
    | succ k ih_L4 =>
      intro j_L4 n2 H locs ls hj_L4 hP hS hl
      refine lv_iload_n hx hb dX4_inState_4 rfl (lv_at hl 0 rfl) ?_
      refine lv_aload_n hx hb dX4_inState_5 rfl (lv_at hl 2 rfl) ?_
      refine va_get (D := (dC, dI)) (ci := 5) (v := .int (I 3)) (C := RX4) (T := TX4) (N := 43) hx hb hts (fun _ h => List.mem_cons_of_mem _ (List.mem_append_right _ h)) hown hK hP 0 rfl rfl 3 (by decide) (hts (.fieldLink RX4 121 "FrontDoorModel" "calls" "I") (by decide +kernel)) (fun _ h9 => h9) rfl dX4_inState_6 ?_
      refine lv_topi (fun x_3 ex_3 => ?_)
      obtain rfl : x_3 = (nI nc) := ex_3.trans hnc
      refine lv_icmp_ge (tgt := 36) hx hb dX4_inState_9 (by decide) (fun c_4 => absurd c_4 (nI_ge (by omega) (by omega))) (fun c_4 => ?_)
      refine lv_iload_n hx hb dX4_inState_12 rfl (lv_at hl 1 rfl) ?_
      refine lv_aload_n hx hb dX4_inState_13 rfl (lv_at hl 2 rfl) ?_
      refine va_get (D := (dC, dI)) (ci := 5) (v := .ref (R 30)) (C := RX4) (T := TX4) (N := 43) hx hb hts (fun _ h => List.mem_cons_of_mem _ (List.mem_append_right _ h)) hown hK hP 0 rfl rfl 30 (by decide) (hts (.fieldLink RX4 77 "FrontDoorModel" "state" "[I") (by decide +kernel)) (fun _ h9 => h9) rfl dX4_inState_14 ?_
      refine lv_iload_n hx hb dX4_inState_17 rfl (lv_at hl 0 rfl) ?_
      refine va_iald hx hb hK hP 21 20 rfl rfl (vp_in_nI (by omega) (by decide)) dX4_inState_18 ?_
      refine lv_topi (fun x_5 ex_5 => ?_)
      replace ex_5 : x_5 = (F 30) (Int32.toNatClampNeg (nI j_L4)) := ex_5
      refine lv_iload_n hx hb dX4_inState_19 rfl (lv_at hl 3 rfl) ?_
      refine lv_icmp_ne (tgt := 27) hx hb dX4_inState_20 (by decide) (fun c_6 => ?_) (fun c_6 => ?_)
      · skip
        have i_6 : ¬ x_5.toInt = a1.toInt := by have h9 := pz_neq c_6; exact h9
        refine lv_iconst (v := 0) hx hb dX4_inState_27 (by decide) ?_
        refine lv_iadd hx hb dX4_inState_28 ?_
        refine lv_topi (fun x_7 ex_7 => ?_)
        refine lv_istore_n (lv' := [(2, .int x_7), (3, .int (nI j_L4)), (0, .ref h0), (1, .int a1)]) hx hb dX4_inState_29 rfl hl (by decide) rfl (fun ls hl => ?_)
        obtain ⟨y_8, ey_8⟩ : ∃ y : Int32, y = (nI j_L4) + 1 := ⟨_, rfl⟩
        refine lv_iinc (v := y_8) (lv' := [(3, .int y_8), (2, .int x_7), (0, .ref h0), (1, .int a1)]) hx hb dX4_inState_30 hl (k := 1) rfl (by rw [ey_8]; rfl) (by decide) rfl (fun ls hl => ?_)
        refine lv_goto (tgt := 4) hx hb dX4_inState_33 (by decide) ?_
        have e9 : y_8 = nI (j_L4 + 1) := ey_8.trans (nI_1 j_L4)
        subst e9
        exact ih_L4 (j_L4 + 1) (x_7) _ _ ls (by omega) hP hS (lv_sub hl [0, 1, 2, 3] rfl)
      · skip
        have i_6 : x_5.toInt = a1.toInt := by have h9 := pz_eq c_6; exact h9
        refine lv_iconst (v := 1) hx hb dX4_inState_23 (by decide) ?_
        refine lv_goto (tgt := 28) hx hb dX4_inState_24 (by decide) ?_
        refine lv_iadd hx hb dX4_inState_28 ?_
        refine lv_topi (fun x_9 ex_9 => ?_)
        refine lv_istore_n (lv' := [(2, .int x_9), (3, .int (nI j_L4)), (0, .ref h0), (1, .int a1)]) hx hb dX4_inState_29 rfl hl (by decide) rfl (fun ls hl => ?_)
        obtain ⟨y_10, ey_10⟩ : ∃ y : Int32, y = (nI j_L4) + 1 := ⟨_, rfl⟩
        refine lv_iinc (v := y_10) (lv' := [(3, .int y_10), (2, .int x_9), (0, .ref h0), (1, .int a1)]) hx hb dX4_inState_30 hl (k := 1) rfl (by rw [ey_10]; rfl) (by decide) rfl (fun ls hl => ?_)
        refine lv_goto (tgt := 4) hx hb dX4_inState_33 (by decide) ?_
        have e9 : y_10 = nI (j_L4 + 1) := ey_10.trans (nI_1 j_L4)
        subst e9
        exact ih_L4 (j_L4 + 1) (x_9) _ _ ls (by omega) hP hS (lv_sub hl [0, 1, 2, 3] rfl)
  exact loop_L4 nc 0 (0) _ _ ls (by omega) hP hS hl

set_option maxHeartbeats 40000000 in
set_option maxRecDepth 100000 in
theorem m_X4_outsNow (l : Launch) (dC : Nat → ClassId) (dI : Nat → Nat → Nat) (h0 : Nat) (R : Nat → Nat) (C : Nat → ClassId) (I : Nat → Int32) (F : Nat → Nat → Int32) (ns : Nat) (al : Int32) (sz : Nat) (hns : I 2 = nI ns) (hbn : ns ≤ 8) : Met l yX4_outsNow wsX4_outsNow ({ frames := 0, cells := 0, slots := 0, locals := 0 }) (va_Pc [.ref h0, .int al] (pzPre (dC, dI) vwCl (gW h0 R C I F) (gT C) sz)) (va_Qi (fun (r : Int32) (_ : Unit) => True) (fun _ _ => True) (va_A [] sz)) 0 0 (va_A [] sz) := by
  refine Met.ofW (cc := cX4_outsNow) (maxL := 4) (ret := (some .int)) (by decide) rfl ?_
  intro p e s m args below meth c s₁ B hml hv
  obtain ⟨rfl, hsz, hP, hK, hD0⟩ := hv
  have hx := B.exec
  have hb := B.bytes
  have hr := B.returns
  have hts := atoms_spec (ws := wsX4_outsNow) B.pre
  have hown : s.vm.findClass RX4 = some m.cls := findClass_of_methodNamed B.named
  have hlocks := B.notSynchronized
  subst hsz
  have hA : ∀ q : Nat, s.heap.size ≤ q → va_A [] s.heap.size q := fun q h => Or.inr h
  have hD := hD0
  generalize va_A [] s.heap.size = A at hA ⊢
  have hS : va_S A s.heap s.heap [] := va_S.rf
  have hP : va_P (dC, dI) vwCl (gW h0 R C I F) s.heap := hP
  have hnsI : (nI ns).toInt = (ns : Int) := nI_toInt (by omega)
  have hl := lv_entry ([.ref h0, .int al]) (n := 4) (Nat.le_of_ble_eq_true rfl)
  rw [lg_entry_eq]
  generalize (lg_sl ([.ref h0, .int al]) ++ List.replicate (4 - (lg_sl ([.ref h0, .int al])).length) Slot.unset).toArray = ls at hl ⊢
  have hl : lv_has ls 4 [(0, .ref h0), (1, .int al)] := hl
  refine lv_iconst (v := 0) hx hb dX4_outsNow_0 (by decide) ?_
  refine lv_istore_n (lv' := [(2, .int 0), (0, .ref h0), (1, .int al)]) hx hb dX4_outsNow_1 rfl hl (by decide) rfl (fun ls hl => ?_)
  refine lv_iconst (v := 0) hx hb dX4_outsNow_2 (by decide) ?_
  refine lv_istore_n (lv' := [(3, .int 0), (2, .int 0), (0, .ref h0), (1, .int al)]) hx hb dX4_outsNow_3 rfl hl (by decide) rfl (fun ls hl => ?_)
  have loop_L4 : ∀ (k j_L4 : Nat) (n2 : Int32) (H : Heap) (locs : List Loc) (ls : Array Slot), j_L4 + k = ns → va_P (dC, dI) vwCl (gW h0 R C I F) H → va_S A s.heap H locs → lv_has ls 4 [(3, .int (nI j_L4)), (2, .int n2), (0, .ref h0), (1, .int al)] → W p l e (headSpec wsX4_outsNow { frames := 0, cells := 0, slots := 0, locals := 0 }).room s m ([.ref h0, .int al] : List Value).toArray below meth c H locs 0 0 (MQ below (va_Qi (fun (r : Int32) (_ : Unit) => True) (fun _ _ => True) A) ([.ref h0, .int al] : List Value).toArray s 0 0 A) (F0 m 4 ls []) := by
    intro k
    induction k with
    | zero =>
      intro j_L4 n2 H locs ls hj_L4 hP hS hl
      refine lv_iload_n hx hb dX4_outsNow_4 rfl (lv_at hl 0 rfl) ?_
      refine lv_aload_n hx hb dX4_outsNow_5 rfl (lv_at hl 2 rfl) ?_
      refine va_get (D := (dC, dI)) (ci := 5) (v := .int (I 2)) (C := RX4) (T := TX4) (N := 43) hx hb hts (fun _ h => List.mem_cons_of_mem _ (List.mem_append_right _ h)) hown hK hP 0 rfl rfl 2 (by decide) (hts (.fieldLink RX4 114 "FrontDoorModel" "servers" "I") (by decide +kernel)) (fun _ h9 => h9) rfl dX4_outsNow_6 ?_
      refine lv_topi (fun x_1 ex_1 => ?_)
      obtain rfl : x_1 = (nI ns) := ex_1.trans hns
      refine lv_icmp_ge (tgt := 59) hx hb dX4_outsNow_9 (by decide) (fun c_2 => ?_) (fun c_2 => absurd (nI_le (by omega) (by omega)) c_2)
      refine lv_iload_n hx hb dX4_outsNow_59 rfl (lv_at hl 1 rfl) ?_
      exact W.iret (v := n2) hx hb hr (fun t ht hW => ⟨⟨n2, (), rfl, trivial, trivial⟩, hS.F ht⟩) hS.2.2 dX4_outsNow_60
    | succ k ih_L4 =>
      intro j_L4 n2 H locs ls hj_L4 hP hS hl
      refine lv_iload_n hx hb dX4_outsNow_4 rfl (lv_at hl 0 rfl) ?_
      refine lv_aload_n hx hb dX4_outsNow_5 rfl (lv_at hl 2 rfl) ?_
      refine va_get (D := (dC, dI)) (ci := 5) (v := .int (I 2)) (C := RX4) (T := TX4) (N := 43) hx hb hts (fun _ h => List.mem_cons_of_mem _ (List.mem_append_right _ h)) hown hK hP 0 rfl rfl 2 (by decide) (hts (.fieldLink RX4 114 "FrontDoorModel" "servers" "I") (by decide +kernel)) (fun _ h9 => h9) rfl dX4_outsNow_6 ?_
      refine lv_topi (fun x_3 ex_3 => ?_)
      obtain rfl : x_3 = (nI ns) := ex_3.trans hns
      refine lv_icmp_ge (tgt := 59) hx hb dX4_outsNow_9 (by decide) (fun c_4 => absurd c_4 (nI_ge (by omega) (by omega))) (fun c_4 => ?_)
      refine lv_iload_n hx hb dX4_outsNow_12 rfl (lv_at hl 1 rfl) ?_
      refine lv_aload_n hx hb dX4_outsNow_13 rfl (lv_at hl 2 rfl) ?_
      refine va_get (D := (dC, dI)) (ci := 5) (v := .ref (R 17)) (C := RX4) (T := TX4) (N := 43) hx hb hts (fun _ h => List.mem_cons_of_mem _ (List.mem_append_right _ h)) hown hK hP 0 rfl rfl 17 (by decide) (hts (.fieldLink RX4 38 "FrontDoorModel" "health" "[I") (by decide +kernel)) (fun _ h9 => h9) rfl dX4_outsNow_14 ?_
      refine lv_iload_n hx hb dX4_outsNow_17 rfl (lv_at hl 0 rfl) ?_
      refine va_iald hx hb hK hP 8 7 rfl rfl (vp_in_nI (by omega) (by decide)) dX4_outsNow_18 ?_
      refine lv_topi (fun x_5 ex_5 => ?_)
      replace ex_5 : x_5 = (F 17) (Int32.toNatClampNeg (nI j_L4)) := ex_5
      refine lv_iconst (v := 1) hx hb dX4_outsNow_19 (by decide) ?_
      refine lv_icmp_eq (tgt := 46) hx hb dX4_outsNow_20 (by decide) (fun c_6 => ?_) (fun c_6 => ?_)
      · skip
        have i_6 : x_5.toInt = 1 := by have h9 := pz_eq c_6; exact h9
        refine lv_iconst (v := 1) hx hb dX4_outsNow_46 (by decide) ?_
        refine lv_goto (tgt := 51) hx hb dX4_outsNow_47 (by decide) ?_
        refine lv_iadd hx hb dX4_outsNow_51 ?_
        refine lv_topi (fun x_7 ex_7 => ?_)
        refine lv_istore_n (lv' := [(2, .int x_7), (3, .int (nI j_L4)), (0, .ref h0), (1, .int al)]) hx hb dX4_outsNow_52 rfl hl (by decide) rfl (fun ls hl => ?_)
        obtain ⟨y_8, ey_8⟩ : ∃ y : Int32, y = (nI j_L4) + 1 := ⟨_, rfl⟩
        refine lv_iinc (v := y_8) (lv' := [(3, .int y_8), (2, .int x_7), (0, .ref h0), (1, .int al)]) hx hb dX4_outsNow_53 hl (k := 1) rfl (by rw [ey_8]; rfl) (by decide) rfl (fun ls hl => ?_)
        refine lv_goto (tgt := 4) hx hb dX4_outsNow_56 (by decide) ?_
        have e9 : y_8 = nI (j_L4 + 1) := ey_8.trans (nI_1 j_L4)
        subst e9
        exact ih_L4 (j_L4 + 1) (x_7) _ _ ls (by omega) hP hS (lv_sub hl [0, 1, 2, 3] rfl)
      · skip
        have i_6 : ¬ x_5.toInt = 1 := by have h9 := pz_neq c_6; exact h9
        refine lv_iload_n hx hb dX4_outsNow_23 rfl (lv_at hl 3 rfl) ?_
        refine lv_if_eq (tgt := 50) hx hb dX4_outsNow_24 (by decide) (fun c_9 => ?_) (fun c_9 => ?_)
        · skip
          have i_9 : al.toInt = 0 := by have h9 := pz_eq c_9; exact h9
          refine lv_iconst (v := 0) hx hb dX4_outsNow_50 (by decide) ?_
          refine lv_iadd hx hb dX4_outsNow_51 ?_
          refine lv_topi (fun x_10 ex_10 => ?_)
          refine lv_istore_n (lv' := [(2, .int x_10), (3, .int (nI j_L4)), (0, .ref h0), (1, .int al)]) hx hb dX4_outsNow_52 rfl hl (by decide) rfl (fun ls hl => ?_)
          obtain ⟨y_11, ey_11⟩ : ∃ y : Int32, y = (nI j_L4) + 1 := ⟨_, rfl⟩
          refine lv_iinc (v := y_11) (lv' := [(3, .int y_11), (2, .int x_10), (0, .ref h0), (1, .int al)]) hx hb dX4_outsNow_53 hl (k := 1) rfl (by rw [ey_11]; rfl) (by decide) rfl (fun ls hl => ?_)
          refine lv_goto (tgt := 4) hx hb dX4_outsNow_56 (by decide) ?_
          have e9 : y_11 = nI (j_L4 + 1) := ey_11.trans (nI_1 j_L4)
          subst e9
          exact ih_L4 (j_L4 + 1) (x_10) _ _ ls (by omega) hP hS (lv_sub hl [0, 1, 2, 3] rfl)
        · skip
          have i_9 : ¬ al.toInt = 0 := by have h9 := pz_neq c_9; exact h9
          refine lv_aload_n hx hb dX4_outsNow_27 rfl (lv_at hl 2 rfl) ?_
          refine va_get (D := (dC, dI)) (ci := 5) (v := .ref (R 17)) (C := RX4) (T := TX4) (N := 43) hx hb hts (fun _ h => List.mem_cons_of_mem _ (List.mem_append_right _ h)) hown hK hP 0 rfl rfl 17 (by decide) (hts (.fieldLink RX4 38 "FrontDoorModel" "health" "[I") (by decide +kernel)) (fun _ h9 => h9) rfl dX4_outsNow_28 ?_
          refine lv_iload_n hx hb dX4_outsNow_31 rfl (lv_at hl 0 rfl) ?_
          refine va_iald hx hb hK hP 8 7 rfl rfl (vp_in_nI (by omega) (by decide)) dX4_outsNow_32 ?_
          refine lv_topi (fun x_12 ex_12 => ?_)
          replace ex_12 : x_12 = (F 17) (Int32.toNatClampNeg (nI j_L4)) := ex_12
          refine lv_if_eq (tgt := 46) hx hb dX4_outsNow_33 (by decide) (fun c_13 => ?_) (fun c_13 => ?_)
          · skip
            have i_13 : x_12.toInt = 0 := by have h9 := pz_eq c_13; exact h9
            refine lv_iconst (v := 1) hx hb dX4_outsNow_46 (by decide) ?_
            refine lv_goto (tgt := 51) hx hb dX4_outsNow_47 (by decide) ?_
            refine lv_iadd hx hb dX4_outsNow_51 ?_
            refine lv_topi (fun x_14 ex_14 => ?_)
            refine lv_istore_n (lv' := [(2, .int x_14), (3, .int (nI j_L4)), (0, .ref h0), (1, .int al)]) hx hb dX4_outsNow_52 rfl hl (by decide) rfl (fun ls hl => ?_)
            obtain ⟨y_15, ey_15⟩ : ∃ y : Int32, y = (nI j_L4) + 1 := ⟨_, rfl⟩
            refine lv_iinc (v := y_15) (lv' := [(3, .int y_15), (2, .int x_14), (0, .ref h0), (1, .int al)]) hx hb dX4_outsNow_53 hl (k := 1) rfl (by rw [ey_15]; rfl) (by decide) rfl (fun ls hl => ?_)
            refine lv_goto (tgt := 4) hx hb dX4_outsNow_56 (by decide) ?_
            have e9 : y_15 = nI (j_L4 + 1) := ey_15.trans (nI_1 j_L4)
            subst e9
            exact ih_L4 (j_L4 + 1) (x_14) _ _ ls (by omega) hP hS (lv_sub hl [0, 1, 2, 3] rfl)
          · skip
            have i_13 : ¬ x_12.toInt = 0 := by have h9 := pz_neq c_13; exact h9
            refine lv_aload_n hx hb dX4_outsNow_36 rfl (lv_at hl 2 rfl) ?_
            refine va_get (D := (dC, dI)) (ci := 5) (v := .ref (R 17)) (C := RX4) (T := TX4) (N := 43) hx hb hts (fun _ h => List.mem_cons_of_mem _ (List.mem_append_right _ h)) hown hK hP 0 rfl rfl 17 (by decide) (hts (.fieldLink RX4 38 "FrontDoorModel" "health" "[I") (by decide +kernel)) (fun _ h9 => h9) rfl dX4_outsNow_37 ?_
            refine lv_iload_n hx hb dX4_outsNow_40 rfl (lv_at hl 0 rfl) ?_
            refine va_iald hx hb hK hP 8 7 rfl rfl (vp_in_nI (by omega) (by decide)) dX4_outsNow_41 ?_
            refine lv_topi (fun x_16 ex_16 => ?_)
            replace ex_16 : x_16 = (F 17) (Int32.toNatClampNeg (nI j_L4)) := ex_16
            refine lv_iconst (v := 2) hx hb dX4_outsNow_42 (by decide) ?_
            refine lv_icmp_ne (tgt := 50) hx hb dX4_outsNow_43 (by decide) (fun c_17 => ?_) (fun c_17 => ?_)
            · skip
              have i_17 : ¬ x_16.toInt = 2 := by have h9 := pz_neq c_17; exact h9
              refine lv_iconst (v := 0) hx hb dX4_outsNow_50 (by decide) ?_
              refine lv_iadd hx hb dX4_outsNow_51 ?_
              refine lv_topi (fun x_18 ex_18 => ?_)
              refine lv_istore_n (lv' := [(2, .int x_18), (3, .int (nI j_L4)), (0, .ref h0), (1, .int al)]) hx hb dX4_outsNow_52 rfl hl (by decide) rfl (fun ls hl => ?_)
              obtain ⟨y_19, ey_19⟩ : ∃ y : Int32, y = (nI j_L4) + 1 := ⟨_, rfl⟩
              refine lv_iinc (v := y_19) (lv' := [(3, .int y_19), (2, .int x_18), (0, .ref h0), (1, .int al)]) hx hb dX4_outsNow_53 hl (k := 1) rfl (by rw [ey_19]; rfl) (by decide) rfl (fun ls hl => ?_)
              refine lv_goto (tgt := 4) hx hb dX4_outsNow_56 (by decide) ?_
              have e9 : y_19 = nI (j_L4 + 1) := ey_19.trans (nI_1 j_L4)
              subst e9
              exact ih_L4 (j_L4 + 1) (x_18) _ _ ls (by omega) hP hS (lv_sub hl [0, 1, 2, 3] rfl)
            · skip
              have i_17 : x_16.toInt = 2 := by have h9 := pz_eq c_17; exact h9
              refine lv_iconst (v := 1) hx hb dX4_outsNow_46 (by decide) ?_
              refine lv_goto (tgt := 51) hx hb dX4_outsNow_47 (by decide) ?_
              refine lv_iadd hx hb dX4_outsNow_51 ?_
              refine lv_topi (fun x_20 ex_20 => ?_)
              refine lv_istore_n (lv' := [(2, .int x_20), (3, .int (nI j_L4)), (0, .ref h0), (1, .int al)]) hx hb dX4_outsNow_52 rfl hl (by decide) rfl (fun ls hl => ?_)
              obtain ⟨y_21, ey_21⟩ : ∃ y : Int32, y = (nI j_L4) + 1 := ⟨_, rfl⟩
              refine lv_iinc (v := y_21) (lv' := [(3, .int y_21), (2, .int x_20), (0, .ref h0), (1, .int al)]) hx hb dX4_outsNow_53 hl (k := 1) rfl (by rw [ey_21]; rfl) (by decide) rfl (fun ls hl => ?_)
              refine lv_goto (tgt := 4) hx hb dX4_outsNow_56 (by decide) ?_
              have e9 : y_21 = nI (j_L4 + 1) := ey_21.trans (nI_1 j_L4)
              subst e9
              exact ih_L4 (j_L4 + 1) (x_20) _ _ ls (by omega) hP hS (lv_sub hl [0, 1, 2, 3] rfl)
  exact loop_L4 ns 0 (0) _ _ ls (by omega) hP hS hl
end
section
def gBit (b : Int32) (s : Nat) : Prop := (b >>> (nI s &&& 31)) &&& 1 = 1
theorem gb_k0 (b : BitVec 32) : ((b ||| (1#32 <<< 0)).sshiftRight 0) &&& 1#32 = 1#32 := by
  apply BitVec.eq_of_getLsbD_eq
  intro i hi
  rw [BitVec.getLsbD_and, BitVec.getLsbD_sshiftRight]
  cases i with
  | zero => simp
  | succ n => simp
theorem gb_or0 (b : Int32) : gBit (b ||| ((1 : Int32) <<< (nI 0 &&& 31))) 0 := by
  unfold gBit
  apply Int32.toBitVec_inj.mp
  have e : (nI 0 &&& 31) = 0 := by decide
  rw [e]
  simp only [Int32.toBitVec_and, Int32.toBitVec_shiftRight, Int32.toBitVec_or, Int32.toBitVec_shiftLeft]
  have e2 : ((0 : Int32).toBitVec.smod 32) = 0#32 := by decide
  rw [e2]
  exact gb_k0 b.toBitVec
theorem gb_k1 (b : BitVec 32) : ((b ||| (1#32 <<< 1)).sshiftRight 1) &&& 1#32 = 1#32 := by
  apply BitVec.eq_of_getLsbD_eq
  intro i hi
  rw [BitVec.getLsbD_and, BitVec.getLsbD_sshiftRight]
  cases i with
  | zero => simp
  | succ n => simp
theorem gb_or1 (b : Int32) : gBit (b ||| ((1 : Int32) <<< (nI 1 &&& 31))) 1 := by
  unfold gBit
  apply Int32.toBitVec_inj.mp
  have e : (nI 1 &&& 31) = 1 := by decide
  rw [e]
  simp only [Int32.toBitVec_and, Int32.toBitVec_shiftRight, Int32.toBitVec_or, Int32.toBitVec_shiftLeft]
  have e2 : ((1 : Int32).toBitVec.smod 32) = 1#32 := by decide
  rw [e2]
  exact gb_k1 b.toBitVec
theorem gb_k2 (b : BitVec 32) : ((b ||| (1#32 <<< 2)).sshiftRight 2) &&& 1#32 = 1#32 := by
  apply BitVec.eq_of_getLsbD_eq
  intro i hi
  rw [BitVec.getLsbD_and, BitVec.getLsbD_sshiftRight]
  cases i with
  | zero => simp
  | succ n => simp
theorem gb_or2 (b : Int32) : gBit (b ||| ((1 : Int32) <<< (nI 2 &&& 31))) 2 := by
  unfold gBit
  apply Int32.toBitVec_inj.mp
  have e : (nI 2 &&& 31) = 2 := by decide
  rw [e]
  simp only [Int32.toBitVec_and, Int32.toBitVec_shiftRight, Int32.toBitVec_or, Int32.toBitVec_shiftLeft]
  have e2 : ((2 : Int32).toBitVec.smod 32) = 2#32 := by decide
  rw [e2]
  exact gb_k2 b.toBitVec
theorem gb_k3 (b : BitVec 32) : ((b ||| (1#32 <<< 3)).sshiftRight 3) &&& 1#32 = 1#32 := by
  apply BitVec.eq_of_getLsbD_eq
  intro i hi
  rw [BitVec.getLsbD_and, BitVec.getLsbD_sshiftRight]
  cases i with
  | zero => simp
  | succ n => simp
theorem gb_or3 (b : Int32) : gBit (b ||| ((1 : Int32) <<< (nI 3 &&& 31))) 3 := by
  unfold gBit
  apply Int32.toBitVec_inj.mp
  have e : (nI 3 &&& 31) = 3 := by decide
  rw [e]
  simp only [Int32.toBitVec_and, Int32.toBitVec_shiftRight, Int32.toBitVec_or, Int32.toBitVec_shiftLeft]
  have e2 : ((3 : Int32).toBitVec.smod 32) = 3#32 := by decide
  rw [e2]
  exact gb_k3 b.toBitVec
theorem gb_k4 (b : BitVec 32) : ((b ||| (1#32 <<< 4)).sshiftRight 4) &&& 1#32 = 1#32 := by
  apply BitVec.eq_of_getLsbD_eq
  intro i hi
  rw [BitVec.getLsbD_and, BitVec.getLsbD_sshiftRight]
  cases i with
  | zero => simp
  | succ n => simp
theorem gb_or4 (b : Int32) : gBit (b ||| ((1 : Int32) <<< (nI 4 &&& 31))) 4 := by
  unfold gBit
  apply Int32.toBitVec_inj.mp
  have e : (nI 4 &&& 31) = 4 := by decide
  rw [e]
  simp only [Int32.toBitVec_and, Int32.toBitVec_shiftRight, Int32.toBitVec_or, Int32.toBitVec_shiftLeft]
  have e2 : ((4 : Int32).toBitVec.smod 32) = 4#32 := by decide
  rw [e2]
  exact gb_k4 b.toBitVec
theorem gb_k5 (b : BitVec 32) : ((b ||| (1#32 <<< 5)).sshiftRight 5) &&& 1#32 = 1#32 := by
  apply BitVec.eq_of_getLsbD_eq
  intro i hi
  rw [BitVec.getLsbD_and, BitVec.getLsbD_sshiftRight]
  cases i with
  | zero => simp
  | succ n => simp
theorem gb_or5 (b : Int32) : gBit (b ||| ((1 : Int32) <<< (nI 5 &&& 31))) 5 := by
  unfold gBit
  apply Int32.toBitVec_inj.mp
  have e : (nI 5 &&& 31) = 5 := by decide
  rw [e]
  simp only [Int32.toBitVec_and, Int32.toBitVec_shiftRight, Int32.toBitVec_or, Int32.toBitVec_shiftLeft]
  have e2 : ((5 : Int32).toBitVec.smod 32) = 5#32 := by decide
  rw [e2]
  exact gb_k5 b.toBitVec
theorem gb_k6 (b : BitVec 32) : ((b ||| (1#32 <<< 6)).sshiftRight 6) &&& 1#32 = 1#32 := by
  apply BitVec.eq_of_getLsbD_eq
  intro i hi
  rw [BitVec.getLsbD_and, BitVec.getLsbD_sshiftRight]
  cases i with
  | zero => simp
  | succ n => simp
theorem gb_or6 (b : Int32) : gBit (b ||| ((1 : Int32) <<< (nI 6 &&& 31))) 6 := by
  unfold gBit
  apply Int32.toBitVec_inj.mp
  have e : (nI 6 &&& 31) = 6 := by decide
  rw [e]
  simp only [Int32.toBitVec_and, Int32.toBitVec_shiftRight, Int32.toBitVec_or, Int32.toBitVec_shiftLeft]
  have e2 : ((6 : Int32).toBitVec.smod 32) = 6#32 := by decide
  rw [e2]
  exact gb_k6 b.toBitVec
theorem gb_k7 (b : BitVec 32) : ((b ||| (1#32 <<< 7)).sshiftRight 7) &&& 1#32 = 1#32 := by
  apply BitVec.eq_of_getLsbD_eq
  intro i hi
  rw [BitVec.getLsbD_and, BitVec.getLsbD_sshiftRight]
  cases i with
  | zero => simp
  | succ n => simp
theorem gb_or7 (b : Int32) : gBit (b ||| ((1 : Int32) <<< (nI 7 &&& 31))) 7 := by
  unfold gBit
  apply Int32.toBitVec_inj.mp
  have e : (nI 7 &&& 31) = 7 := by decide
  rw [e]
  simp only [Int32.toBitVec_and, Int32.toBitVec_shiftRight, Int32.toBitVec_or, Int32.toBitVec_shiftLeft]
  have e2 : ((7 : Int32).toBitVec.smod 32) = 7#32 := by decide
  rw [e2]
  exact gb_k7 b.toBitVec
theorem gBit_or (b : Int32) (j : Nat) (h : j < 8) : gBit (b ||| ((1 : Int32) <<< (nI j &&& 31))) j := by
  rcases (show j = 0 ∨ j = 1 ∨ j = 2 ∨ j = 3 ∨ j = 4 ∨ j = 5 ∨ j = 6 ∨ j = 7 by omega) with rfl | rfl | rfl | rfl | rfl | rfl | rfl | rfl
  · exact gb_or0 b
  · exact gb_or1 b
  · exact gb_or2 b
  · exact gb_or3 b
  · exact gb_or4 b
  · exact gb_or5 b
  · exact gb_or6 b
  · exact gb_or7 b
/-- either no bit, or one of a place below n -/
def gMay (b : Int32) (n : Nat) : Prop := b = 0 ∨ ∃ s, s < n ∧ gBit b s
theorem gMay_0 (n : Nat) : gMay 0 n := Or.inl rfl
theorem gMay_up {b : Int32} {j : Nat} (h : gMay b j) : gMay b (j + 1) := h.elim Or.inl (fun ⟨s, h1, h2⟩ => Or.inr ⟨s, by omega, h2⟩)
theorem gMay_or {b : Int32} {j : Nat} (h : j < 8) : gMay (b ||| ((1 : Int32) <<< (nI j &&& 31))) (j + 1) := Or.inr ⟨j, by omega, gBit_or b j h⟩
theorem gF_skip {a b : Int32} {j ns : Nat} (h : ∀ s, s < j → ¬ gBit a s) (hj : ¬ gBit a j) (hb : b = -1 := by rfl) : (b = -1 ∧ ∀ s, s < j + 1 → ¬ gBit a s) ∨ ∃ q, q < ns ∧ b = nI q := by
  refine Or.inl ⟨hb, fun s hs => ?_⟩
  rcases Nat.lt_succ_iff_lt_or_eq.mp hs with h1 | h1
  · exact h s h1
  · rw [h1]; exact hj
end
section
set_option maxHeartbeats 40000000 in
set_option maxRecDepth 100000 in
theorem m_X4_mays (l : Launch) (dC : Nat → ClassId) (dI : Nat → Nat → Nat) (h0 : Nat) (R : Nat → Nat) (C : Nat → ClassId) (I : Nat → Int32) (F : Nat → Nat → Int32) (ns : Nat) (a1 : Int32) (sz : Nat) (hns : I 2 = nI ns) (hbn : ns ≤ 8) : Met l yX4_mays wsX4_mays ({ frames := 0, cells := 0, slots := 0, locals := 0 }) (va_Pc [.ref h0, .int a1] (pzPre (dC, dI) vwCl (gW h0 R C I F) (gT C) sz)) (va_Qi (fun (r : Int32) (_ : Unit) => gMay r ns) (fun _ _ => True) (va_A [] sz)) 0 0 (va_A [] sz) := by
  refine Met.ofW (cc := cX4_mays) (maxL := 4) (ret := (some .int)) (by decide) rfl ?_
  intro p e s m args below meth c s₁ B hml hv
  obtain ⟨rfl, hsz, hP, hK, hD0⟩ := hv
  have hx := B.exec
  have hb := B.bytes
  have hr := B.returns
  have hts := atoms_spec (ws := wsX4_mays) B.pre
  have hown : s.vm.findClass RX4 = some m.cls := findClass_of_methodNamed B.named
  have hlocks := B.notSynchronized
  subst hsz
  have hA : ∀ q : Nat, s.heap.size ≤ q → va_A [] s.heap.size q := fun q h => Or.inr h
  have hD := hD0
  generalize va_A [] s.heap.size = A at hA ⊢
  have hS : va_S A s.heap s.heap [] := va_S.rf
  have hP : va_P (dC, dI) vwCl (gW h0 R C I F) s.heap := hP
  have hnsI : (nI ns).toInt = (ns : Int) := nI_toInt (by omega)
  have hl := lv_entry ([.ref h0, .int a1]) (n := 4) (Nat.le_of_ble_eq_true rfl)
  rw [lg_entry_eq]
  generalize (lg_sl ([.ref h0, .int a1]) ++ List.replicate (4 - (lg_sl ([.ref h0, .int a1])).length) Slot.unset).toArray = ls at hl ⊢
  have hl : lv_has ls 4 [(0, .ref h0), (1, .int a1)] := hl
  refine lv_iconst (v := 0) hx hb dX4_mays_0 (by decide) ?_
  refine lv_istore_n (lv' := [(2, .int 0), (0, .ref h0), (1, .int a1)]) hx hb dX4_mays_1 rfl hl (by decide) rfl (fun ls hl => ?_)
  refine lv_iconst (v := 0) hx hb dX4_mays_2 (by decide) ?_
  refine lv_istore_n (lv' := [(3, .int 0), (2, .int 0), (0, .ref h0), (1, .int a1)]) hx hb dX4_mays_3 rfl hl (by decide) rfl (fun ls hl => ?_)
  have loop_L4 : ∀ (k j_L4 : Nat) (b2 : Int32) (H : Heap) (locs : List Loc) (ls : Array Slot), j_L4 + k = ns → gMay b2 j_L4 → va_P (dC, dI) vwCl (gW h0 R C I F) H → va_S A s.heap H locs → lv_has ls 4 [(3, .int (nI j_L4)), (2, .int b2), (0, .ref h0), (1, .int a1)] → W p l e (headSpec wsX4_mays { frames := 0, cells := 0, slots := 0, locals := 0 }).room s m ([.ref h0, .int a1] : List Value).toArray below meth c H locs 0 0 (MQ below (va_Qi (fun (r : Int32) (_ : Unit) => gMay r ns) (fun _ _ => True) A) ([.ref h0, .int a1] : List Value).toArray s 0 0 A) (F0 m 4 ls []) := by
    intro k
    induction k with
    | zero =>
      intro j_L4 b2 H locs ls hj_L4 hinv hP hS hl
      refine lv_iload_n hx hb dX4_mays_4 rfl (lv_at hl 0 rfl) ?_
      refine lv_aload_n hx hb dX4_mays_5 rfl (lv_at hl 2 rfl) ?_
      refine va_get (D := (dC, dI)) (ci := 5) (v := .int (I 2)) (C := RX4) (T := TX4) (N := 43) hx hb hts (fun _ h => List.mem_cons_of_mem _ (List.mem_append_right _ h)) hown hK hP 0 rfl rfl 2 (by decide) (hts (.fieldLink RX4 114 "FrontDoorModel" "servers" "I") (by decide +kernel)) (fun _ h9 => h9) rfl dX4_mays_6 ?_
      refine lv_topi (fun x_1 ex_1 => ?_)
      obtain rfl : x_1 = (nI ns) := ex_1.trans hns
      refine lv_icmp_ge (tgt := 75) hx hb dX4_mays_9 (by decide) (fun c_2 => ?_) (fun c_2 => absurd (nI_le (by omega) (by omega)) c_2)
      refine lv_iload_n hx hb dX4_mays_75 rfl (lv_at hl 1 rfl) ?_
      exact W.iret (v := b2) hx hb hr (fun t ht hW => ⟨⟨b2, (), rfl, (by rw [show ns = j_L4 by omega]; exact hinv), trivial⟩, hS.F ht⟩) hS.2.2 dX4_mays_76
    | succ k ih_L4 =>
      intro j_L4 b2 H locs ls hj_L4 hinv hP hS hl
      refine lv_iload_n hx hb dX4_mays_4 rfl (lv_at hl 0 rfl) ?_
      refine lv_aload_n hx hb dX4_mays_5 rfl (lv_at hl 2 rfl) ?_
      refine va_get (D := (dC, dI)) (ci := 5) (v := .int (I 2)) (C := RX4) (T := TX4) (N := 43) hx hb hts (fun _ h => List.mem_cons_of_mem _ (List.mem_append_right _ h)) hown hK hP 0 rfl rfl 2 (by decide) (hts (.fieldLink RX4 114 "FrontDoorModel" "servers" "I") (by decide +kernel)) (fun _ h9 => h9) rfl dX4_mays_6 ?_
      refine lv_topi (fun x_3 ex_3 => ?_)
      obtain rfl : x_3 = (nI ns) := ex_3.trans hns
      refine lv_icmp_ge (tgt := 75) hx hb dX4_mays_9 (by decide) (fun c_4 => absurd c_4 (nI_ge (by omega) (by omega))) (fun c_4 => ?_)
      refine lv_iload_n hx hb dX4_mays_12 rfl (lv_at hl 3 rfl) ?_
      refine lv_iload_n hx hb dX4_mays_13 rfl (lv_at hl 0 rfl) ?_
      refine lv_ishr hx hb dX4_mays_14 ?_
      refine lv_topi (fun x_5 ex_5 => ?_)
      refine lv_iconst (v := 1) hx hb dX4_mays_15 (by decide) ?_
      refine lv_iand hx hb dX4_mays_16 ?_
      refine lv_topi (fun x_6 ex_6 => ?_)
      refine lv_if_ne (tgt := 69) hx hb dX4_mays_17 (by decide) (fun c_7 => ?_) (fun c_7 => ?_)
      · skip
        have i_7 : ¬ x_6.toInt = 0 := by have h9 := pz_neq c_7; exact h9
        obtain ⟨y_8, ey_8⟩ : ∃ y : Int32, y = (nI j_L4) + 1 := ⟨_, rfl⟩
        refine lv_iinc (v := y_8) (lv' := [(3, .int y_8), (2, .int b2), (0, .ref h0), (1, .int a1)]) hx hb dX4_mays_69 hl (k := 0) rfl (by rw [ey_8]; rfl) (by decide) rfl (fun ls hl => ?_)
        refine lv_goto (tgt := 4) hx hb dX4_mays_72 (by decide) ?_
        have e9 : y_8 = nI (j_L4 + 1) := ey_8.trans (nI_1 j_L4)
        subst e9
        exact ih_L4 (j_L4 + 1) (b2) _ _ ls (by omega) (by first | exact gMay_up hinv | (subst_vars; exact gMay_or (by omega))) hP hS (lv_sub hl [0, 1, 2, 3] rfl)
      · skip
        have i_7 : x_6.toInt = 0 := by have h9 := pz_eq c_7; exact h9
        refine lv_aload_n hx hb dX4_mays_20 rfl (lv_at hl 2 rfl) ?_
        refine va_get (D := (dC, dI)) (ci := 5) (v := .ref (R 18)) (C := RX4) (T := TX4) (N := 43) hx hb hts (fun _ h => List.mem_cons_of_mem _ (List.mem_append_right _ h)) hown hK hP 0 rfl rfl 18 (by decide) (hts (.fieldLink RX4 41 "FrontDoorModel" "open" "[I") (by decide +kernel)) (fun _ h9 => h9) rfl dX4_mays_21 ?_
        refine lv_iload_n hx hb dX4_mays_24 rfl (lv_at hl 0 rfl) ?_
        refine va_iald hx hb hK hP 9 8 rfl rfl (vp_in_nI (by omega) (by decide)) dX4_mays_25 ?_
        refine lv_topi (fun x_9 ex_9 => ?_)
        replace ex_9 : x_9 = (F 18) (Int32.toNatClampNeg (nI j_L4)) := ex_9
        refine lv_aload_n hx hb dX4_mays_26 rfl (lv_at hl 2 rfl) ?_
        refine va_get (D := (dC, dI)) (ci := 5) (v := .ref (R 13)) (C := RX4) (T := TX4) (N := 43) hx hb hts (fun _ h => List.mem_cons_of_mem _ (List.mem_append_right _ h)) hown hK hP 0 rfl rfl 13 (by decide) (hts (.fieldLink RX4 26 "FrontDoorModel" "room" "[I") (by decide +kernel)) (fun _ h9 => h9) rfl dX4_mays_27 ?_
        refine lv_iload_n hx hb dX4_mays_30 rfl (lv_at hl 0 rfl) ?_
        refine va_iald hx hb hK hP 4 3 rfl rfl (vp_in_nI (by omega) (by decide)) dX4_mays_31 ?_
        refine lv_topi (fun x_10 ex_10 => ?_)
        replace ex_10 : x_10 = (F 13) (Int32.toNatClampNeg (nI j_L4)) := ex_10
        refine lv_icmp_ge (tgt := 69) hx hb dX4_mays_32 (by decide) (fun c_11 => ?_) (fun c_11 => ?_)
        · skip
          have i_11 : x_10.toInt ≤ x_9.toInt := by have h9 := pz_ge c_11; exact h9
          obtain ⟨y_12, ey_12⟩ : ∃ y : Int32, y = (nI j_L4) + 1 := ⟨_, rfl⟩
          refine lv_iinc (v := y_12) (lv' := [(3, .int y_12), (2, .int b2), (0, .ref h0), (1, .int a1)]) hx hb dX4_mays_69 hl (k := 0) rfl (by rw [ey_12]; rfl) (by decide) rfl (fun ls hl => ?_)
          refine lv_goto (tgt := 4) hx hb dX4_mays_72 (by decide) ?_
          have e9 : y_12 = nI (j_L4 + 1) := ey_12.trans (nI_1 j_L4)
          subst e9
          exact ih_L4 (j_L4 + 1) (b2) _ _ ls (by omega) (by first | exact gMay_up hinv | (subst_vars; exact gMay_or (by omega))) hP hS (lv_sub hl [0, 1, 2, 3] rfl)
        · skip
          have i_11 : x_9.toInt < x_10.toInt := by have h9 := pz_nge c_11; exact h9
          refine lv_aload_n hx hb dX4_mays_35 rfl (lv_at hl 2 rfl) ?_
          refine va_get (D := (dC, dI)) (ci := 5) (v := .ref (R 17)) (C := RX4) (T := TX4) (N := 43) hx hb hts (fun _ h => List.mem_cons_of_mem _ (List.mem_append_right _ h)) hown hK hP 0 rfl rfl 17 (by decide) (hts (.fieldLink RX4 38 "FrontDoorModel" "health" "[I") (by decide +kernel)) (fun _ h9 => h9) rfl dX4_mays_36 ?_
          refine lv_iload_n hx hb dX4_mays_39 rfl (lv_at hl 0 rfl) ?_
          refine va_iald hx hb hK hP 8 7 rfl rfl (vp_in_nI (by omega) (by decide)) dX4_mays_40 ?_
          refine lv_topi (fun x_13 ex_13 => ?_)
          replace ex_13 : x_13 = (F 17) (Int32.toNatClampNeg (nI j_L4)) := ex_13
          refine lv_if_eq (tgt := 63) hx hb dX4_mays_41 (by decide) (fun c_14 => ?_) (fun c_14 => ?_)
          · skip
            have i_14 : x_13.toInt = 0 := by have h9 := pz_eq c_14; exact h9
            refine lv_iload_n hx hb dX4_mays_63 rfl (lv_at hl 1 rfl) ?_
            refine lv_iconst (v := 1) hx hb dX4_mays_64 (by decide) ?_
            refine lv_iload_n hx hb dX4_mays_65 rfl (lv_at hl 0 rfl) ?_
            refine lv_ishl hx hb dX4_mays_66 ?_
            refine lv_topi (fun x_15 ex_15 => ?_)
            refine lv_ior hx hb dX4_mays_67 ?_
            refine lv_topi (fun x_16 ex_16 => ?_)
            refine lv_istore_n (lv' := [(2, .int x_16), (3, .int (nI j_L4)), (0, .ref h0), (1, .int a1)]) hx hb dX4_mays_68 rfl hl (by decide) rfl (fun ls hl => ?_)
            obtain ⟨y_17, ey_17⟩ : ∃ y : Int32, y = (nI j_L4) + 1 := ⟨_, rfl⟩
            refine lv_iinc (v := y_17) (lv' := [(3, .int y_17), (2, .int x_16), (0, .ref h0), (1, .int a1)]) hx hb dX4_mays_69 hl (k := 1) rfl (by rw [ey_17]; rfl) (by decide) rfl (fun ls hl => ?_)
            refine lv_goto (tgt := 4) hx hb dX4_mays_72 (by decide) ?_
            have e9 : y_17 = nI (j_L4 + 1) := ey_17.trans (nI_1 j_L4)
            subst e9
            exact ih_L4 (j_L4 + 1) (x_16) _ _ ls (by omega) (by first | exact gMay_up hinv | (subst_vars; exact gMay_or (by omega))) hP hS (lv_sub hl [0, 1, 2, 3] rfl)
          · skip
            have i_14 : ¬ x_13.toInt = 0 := by have h9 := pz_neq c_14; exact h9
            refine lv_aload_n hx hb dX4_mays_44 rfl (lv_at hl 2 rfl) ?_
            refine va_get (D := (dC, dI)) (ci := 5) (v := .ref (R 17)) (C := RX4) (T := TX4) (N := 43) hx hb hts (fun _ h => List.mem_cons_of_mem _ (List.mem_append_right _ h)) hown hK hP 0 rfl rfl 17 (by decide) (hts (.fieldLink RX4 38 "FrontDoorModel" "health" "[I") (by decide +kernel)) (fun _ h9 => h9) rfl dX4_mays_45 ?_
            refine lv_iload_n hx hb dX4_mays_48 rfl (lv_at hl 0 rfl) ?_
            refine va_iald hx hb hK hP 8 7 rfl rfl (vp_in_nI (by omega) (by decide)) dX4_mays_49 ?_
            refine lv_topi (fun x_18 ex_18 => ?_)
            replace ex_18 : x_18 = (F 17) (Int32.toNatClampNeg (nI j_L4)) := ex_18
            refine lv_iconst (v := 2) hx hb dX4_mays_50 (by decide) ?_
            refine lv_icmp_ne (tgt := 69) hx hb dX4_mays_51 (by decide) (fun c_19 => ?_) (fun c_19 => ?_)
            · skip
              have i_19 : ¬ x_18.toInt = 2 := by have h9 := pz_neq c_19; exact h9
              obtain ⟨y_20, ey_20⟩ : ∃ y : Int32, y = (nI j_L4) + 1 := ⟨_, rfl⟩
              refine lv_iinc (v := y_20) (lv' := [(3, .int y_20), (2, .int b2), (0, .ref h0), (1, .int a1)]) hx hb dX4_mays_69 hl (k := 0) rfl (by rw [ey_20]; rfl) (by decide) rfl (fun ls hl => ?_)
              refine lv_goto (tgt := 4) hx hb dX4_mays_72 (by decide) ?_
              have e9 : y_20 = nI (j_L4 + 1) := ey_20.trans (nI_1 j_L4)
              subst e9
              exact ih_L4 (j_L4 + 1) (b2) _ _ ls (by omega) (by first | exact gMay_up hinv | (subst_vars; exact gMay_or (by omega))) hP hS (lv_sub hl [0, 1, 2, 3] rfl)
            · skip
              have i_19 : x_18.toInt = 2 := by have h9 := pz_eq c_19; exact h9
              refine lv_aload_n hx hb dX4_mays_54 rfl (lv_at hl 2 rfl) ?_
              refine va_get (D := (dC, dI)) (ci := 5) (v := .ref (R 18)) (C := RX4) (T := TX4) (N := 43) hx hb hts (fun _ h => List.mem_cons_of_mem _ (List.mem_append_right _ h)) hown hK hP 0 rfl rfl 18 (by decide) (hts (.fieldLink RX4 41 "FrontDoorModel" "open" "[I") (by decide +kernel)) (fun _ h9 => h9) rfl dX4_mays_55 ?_
              refine lv_iload_n hx hb dX4_mays_58 rfl (lv_at hl 0 rfl) ?_
              refine va_iald hx hb hK hP 9 8 rfl rfl (vp_in_nI (by omega) (by decide)) dX4_mays_59 ?_
              refine lv_topi (fun x_21 ex_21 => ?_)
              replace ex_21 : x_21 = (F 18) (Int32.toNatClampNeg (nI j_L4)) := ex_21
              refine lv_if_ne (tgt := 69) hx hb dX4_mays_60 (by decide) (fun c_22 => ?_) (fun c_22 => ?_)
              · skip
                have i_22 : ¬ x_21.toInt = 0 := by have h9 := pz_neq c_22; exact h9
                obtain ⟨y_23, ey_23⟩ : ∃ y : Int32, y = (nI j_L4) + 1 := ⟨_, rfl⟩
                refine lv_iinc (v := y_23) (lv' := [(3, .int y_23), (2, .int b2), (0, .ref h0), (1, .int a1)]) hx hb dX4_mays_69 hl (k := 0) rfl (by rw [ey_23]; rfl) (by decide) rfl (fun ls hl => ?_)
                refine lv_goto (tgt := 4) hx hb dX4_mays_72 (by decide) ?_
                have e9 : y_23 = nI (j_L4 + 1) := ey_23.trans (nI_1 j_L4)
                subst e9
                exact ih_L4 (j_L4 + 1) (b2) _ _ ls (by omega) (by first | exact gMay_up hinv | (subst_vars; exact gMay_or (by omega))) hP hS (lv_sub hl [0, 1, 2, 3] rfl)
              · skip
                have i_22 : x_21.toInt = 0 := by have h9 := pz_eq c_22; exact h9
                refine lv_iload_n hx hb dX4_mays_63 rfl (lv_at hl 1 rfl) ?_
                refine lv_iconst (v := 1) hx hb dX4_mays_64 (by decide) ?_
                refine lv_iload_n hx hb dX4_mays_65 rfl (lv_at hl 0 rfl) ?_
                refine lv_ishl hx hb dX4_mays_66 ?_
                refine lv_topi (fun x_24 ex_24 => ?_)
                refine lv_ior hx hb dX4_mays_67 ?_
                refine lv_topi (fun x_25 ex_25 => ?_)
                refine lv_istore_n (lv' := [(2, .int x_25), (3, .int (nI j_L4)), (0, .ref h0), (1, .int a1)]) hx hb dX4_mays_68 rfl hl (by decide) rfl (fun ls hl => ?_)
                obtain ⟨y_26, ey_26⟩ : ∃ y : Int32, y = (nI j_L4) + 1 := ⟨_, rfl⟩
                refine lv_iinc (v := y_26) (lv' := [(3, .int y_26), (2, .int x_25), (0, .ref h0), (1, .int a1)]) hx hb dX4_mays_69 hl (k := 1) rfl (by rw [ey_26]; rfl) (by decide) rfl (fun ls hl => ?_)
                refine lv_goto (tgt := 4) hx hb dX4_mays_72 (by decide) ?_
                have e9 : y_26 = nI (j_L4 + 1) := ey_26.trans (nI_1 j_L4)
                subst e9
                exact ih_L4 (j_L4 + 1) (x_25) _ _ ls (by omega) (by first | exact gMay_up hinv | (subst_vars; exact gMay_or (by omega))) hP hS (lv_sub hl [0, 1, 2, 3] rfl)
  exact loop_L4 ns 0 (0) _ _ ls (by omega) (gMay_0 0) hP hS hl

set_option maxHeartbeats 40000000 in
set_option maxRecDepth 100000 in
theorem m_X4_fewest (l : Launch) (dC : Nat → ClassId) (dI : Nat → Nat → Nat) (h0 : Nat) (R : Nat → Nat) (C : Nat → ClassId) (I : Nat → Int32) (F : Nat → Nat → Int32) (ns : Nat) (a1 : Int32) (sz : Nat) (hns : I 2 = nI ns) (hbn : ns ≤ 8) : Met l yX4_fewest wsX4_fewest ({ frames := 0, cells := 0, slots := 0, locals := 0 }) (va_Pc [.ref h0, .int a1] (pzPre (dC, dI) vwCl (gW h0 R C I F) (gT C) sz)) (va_Qi (fun (r : Int32) (_ : Unit) => (∃ s, s < ns ∧ gBit a1 s) → ∃ q, q < ns ∧ r = nI q) (fun _ _ => True) (va_A [] sz)) 0 0 (va_A [] sz) := by
  refine Met.ofW (cc := cX4_fewest) (maxL := 4) (ret := (some .int)) (by decide) rfl ?_
  intro p e s m args below meth c s₁ B hml hv
  obtain ⟨rfl, hsz, hP, hK, hD0⟩ := hv
  have hx := B.exec
  have hb := B.bytes
  have hr := B.returns
  have hts := atoms_spec (ws := wsX4_fewest) B.pre
  have hown : s.vm.findClass RX4 = some m.cls := findClass_of_methodNamed B.named
  have hlocks := B.notSynchronized
  subst hsz
  have hA : ∀ q : Nat, s.heap.size ≤ q → va_A [] s.heap.size q := fun q h => Or.inr h
  have hD := hD0
  generalize va_A [] s.heap.size = A at hA ⊢
  have hS : va_S A s.heap s.heap [] := va_S.rf
  have hP : va_P (dC, dI) vwCl (gW h0 R C I F) s.heap := hP
  have hnsI : (nI ns).toInt = (ns : Int) := nI_toInt (by omega)
  have hl := lv_entry ([.ref h0, .int a1]) (n := 4) (Nat.le_of_ble_eq_true rfl)
  rw [lg_entry_eq]
  generalize (lg_sl ([.ref h0, .int a1]) ++ List.replicate (4 - (lg_sl ([.ref h0, .int a1])).length) Slot.unset).toArray = ls at hl ⊢
  have hl : lv_has ls 4 [(0, .ref h0), (1, .int a1)] := hl
  refine lv_iconst (v := (-1)) hx hb dX4_fewest_0 (by decide) ?_
  refine lv_istore_n (lv' := [(2, .int (-1)), (0, .ref h0), (1, .int a1)]) hx hb dX4_fewest_1 rfl hl (by decide) rfl (fun ls hl => ?_)
  refine lv_iconst (v := 0) hx hb dX4_fewest_2 (by decide) ?_
  refine lv_istore_n (lv' := [(3, .int 0), (2, .int (-1)), (0, .ref h0), (1, .int a1)]) hx hb dX4_fewest_3 rfl hl (by decide) rfl (fun ls hl => ?_)
  have loop_L4 : ∀ (k j_L4 : Nat) (b2 : Int32) (H : Heap) (locs : List Loc) (ls : Array Slot), j_L4 + k = ns → ((b2 = -1 ∧ ∀ s, s < j_L4 → ¬ gBit a1 s) ∨ ∃ q, q < ns ∧ b2 = nI q) → va_P (dC, dI) vwCl (gW h0 R C I F) H → va_S A s.heap H locs → lv_has ls 4 [(3, .int (nI j_L4)), (2, .int b2), (0, .ref h0), (1, .int a1)] → W p l e (headSpec wsX4_fewest { frames := 0, cells := 0, slots := 0, locals := 0 }).room s m ([.ref h0, .int a1] : List Value).toArray below meth c H locs 0 0 (MQ below (va_Qi (fun (r : Int32) (_ : Unit) => (∃ s, s < ns ∧ gBit a1 s) → ∃ q, q < ns ∧ r = nI q) (fun _ _ => True) A) ([.ref h0, .int a1] : List Value).toArray s 0 0 A) (F0 m 4 ls []) := by
    intro k
    induction k with
    | zero =>
      intro j_L4 b2 H locs ls hj_L4 hinv hP hS hl
      rcases hinv with ⟨rfl, hinv⟩ | ⟨q, hq, rfl⟩
      · skip
        refine lv_iload_n hx hb dX4_fewest_4 rfl (lv_at hl 0 rfl) ?_
        refine lv_aload_n hx hb dX4_fewest_5 rfl (lv_at hl 2 rfl) ?_
        refine va_get (D := (dC, dI)) (ci := 5) (v := .int (I 2)) (C := RX4) (T := TX4) (N := 43) hx hb hts (fun _ h => List.mem_cons_of_mem _ (List.mem_append_right _ h)) hown hK hP 0 rfl rfl 2 (by decide) (hts (.fieldLink RX4 114 "FrontDoorModel" "servers" "I") (by decide +kernel)) (fun _ h9 => h9) rfl dX4_fewest_6 ?_
        refine lv_topi (fun x_1 ex_1 => ?_)
        obtain rfl : x_1 = (nI ns) := ex_1.trans hns
        refine lv_icmp_ge (tgt := 62) hx hb dX4_fewest_9 (by decide) (fun c_2 => ?_) (fun c_2 => absurd (nI_le (by omega) (by omega)) c_2)
        refine lv_iload_n hx hb dX4_fewest_62 rfl (lv_at hl 1 rfl) ?_
        exact W.iret (v := (-1)) hx hb hr (fun t ht hW => ⟨⟨(-1), (), rfl, (by first | exact fun _ => ⟨q, hq, rfl⟩ | exact fun ⟨s, h1, h2⟩ => absurd h2 (hinv s (by omega))), trivial⟩, hS.F ht⟩) hS.2.2 dX4_fewest_63
      · skip
        refine lv_iload_n hx hb dX4_fewest_4 rfl (lv_at hl 0 rfl) ?_
        refine lv_aload_n hx hb dX4_fewest_5 rfl (lv_at hl 2 rfl) ?_
        refine va_get (D := (dC, dI)) (ci := 5) (v := .int (I 2)) (C := RX4) (T := TX4) (N := 43) hx hb hts (fun _ h => List.mem_cons_of_mem _ (List.mem_append_right _ h)) hown hK hP 0 rfl rfl 2 (by decide) (hts (.fieldLink RX4 114 "FrontDoorModel" "servers" "I") (by decide +kernel)) (fun _ h9 => h9) rfl dX4_fewest_6 ?_
        refine lv_topi (fun x_3 ex_3 => ?_)
        obtain rfl : x_3 = (nI ns) := ex_3.trans hns
        refine lv_icmp_ge (tgt := 62) hx hb dX4_fewest_9 (by decide) (fun c_4 => ?_) (fun c_4 => absurd (nI_le (by omega) (by omega)) c_4)
        refine lv_iload_n hx hb dX4_fewest_62 rfl (lv_at hl 1 rfl) ?_
        exact W.iret (v := (nI q)) hx hb hr (fun t ht hW => ⟨⟨(nI q), (), rfl, (by first | exact fun _ => ⟨q, hq, rfl⟩ | exact fun ⟨s, h1, h2⟩ => absurd h2 (hinv s (by omega))), trivial⟩, hS.F ht⟩) hS.2.2 dX4_fewest_63
    | succ k ih_L4 =>
      intro j_L4 b2 H locs ls hj_L4 hinv hP hS hl
      rcases hinv with ⟨rfl, hinv⟩ | ⟨q, hq, rfl⟩
      · skip
        refine lv_iload_n hx hb dX4_fewest_4 rfl (lv_at hl 0 rfl) ?_
        refine lv_aload_n hx hb dX4_fewest_5 rfl (lv_at hl 2 rfl) ?_
        refine va_get (D := (dC, dI)) (ci := 5) (v := .int (I 2)) (C := RX4) (T := TX4) (N := 43) hx hb hts (fun _ h => List.mem_cons_of_mem _ (List.mem_append_right _ h)) hown hK hP 0 rfl rfl 2 (by decide) (hts (.fieldLink RX4 114 "FrontDoorModel" "servers" "I") (by decide +kernel)) (fun _ h9 => h9) rfl dX4_fewest_6 ?_
        refine lv_topi (fun x_5 ex_5 => ?_)
        obtain rfl : x_5 = (nI ns) := ex_5.trans hns
        refine lv_icmp_ge (tgt := 62) hx hb dX4_fewest_9 (by decide) (fun c_6 => absurd c_6 (nI_ge (by omega) (by omega))) (fun c_6 => ?_)
        refine lv_iload_n hx hb dX4_fewest_12 rfl (lv_at hl 3 rfl) ?_
        refine lv_iload_n hx hb dX4_fewest_13 rfl (lv_at hl 0 rfl) ?_
        refine lv_ishr hx hb dX4_fewest_14 ?_
        refine lv_topi (fun x_7 ex_7 => ?_)
        refine lv_iconst (v := 1) hx hb dX4_fewest_15 (by decide) ?_
        refine lv_iand hx hb dX4_fewest_16 ?_
        refine lv_topi (fun x_8 ex_8 => ?_)
        refine lv_iconst (v := 1) hx hb dX4_fewest_17 (by decide) ?_
        refine lv_icmp_ne (tgt := 56) hx hb dX4_fewest_18 (by decide) (fun c_9 => ?_) (fun c_9 => ?_)
        · skip
          have i_9 : ¬ x_8.toInt = 1 := by have h9 := pz_neq c_9; exact h9
          obtain ⟨y_10, ey_10⟩ : ∃ y : Int32, y = (nI j_L4) + 1 := ⟨_, rfl⟩
          refine lv_iinc (v := y_10) (lv' := [(3, .int y_10), (2, .int (-1)), (0, .ref h0), (1, .int a1)]) hx hb dX4_fewest_56 hl (k := 0) rfl (by rw [ey_10]; rfl) (by decide) rfl (fun ls hl => ?_)
          refine lv_goto (tgt := 4) hx hb dX4_fewest_59 (by decide) ?_
          have e9 : y_10 = nI (j_L4 + 1) := ey_10.trans (nI_1 j_L4)
          subst e9
          exact ih_L4 (j_L4 + 1) ((-1)) _ _ ls (by omega) (by subst_vars; first | exact Or.inr ⟨_, by omega, rfl⟩ | exact gF_skip hinv (fun h8 => by unfold gBit at h8; exact absurd h8 (by assumption))) hP hS (lv_sub hl [0, 1, 2, 3] rfl)
        · skip
          have i_9 : x_8.toInt = 1 := by have h9 := pz_eq c_9; exact h9
          refine lv_iload_n hx hb dX4_fewest_21 rfl (lv_at hl 1 rfl) ?_
          refine lv_if_lt (tgt := 54) hx hb dX4_fewest_22 (by decide) (fun c_11 => ?_) (fun c_11 => absurd (by decide) c_11)
          refine lv_iload_n hx hb dX4_fewest_54 rfl (lv_at hl 0 rfl) ?_
          refine lv_istore_n (lv' := [(2, .int (nI j_L4)), (3, .int (nI j_L4)), (0, .ref h0), (1, .int a1)]) hx hb dX4_fewest_55 rfl hl (by decide) rfl (fun ls hl => ?_)
          obtain ⟨y_12, ey_12⟩ : ∃ y : Int32, y = (nI j_L4) + 1 := ⟨_, rfl⟩
          refine lv_iinc (v := y_12) (lv' := [(3, .int y_12), (2, .int (nI j_L4)), (0, .ref h0), (1, .int a1)]) hx hb dX4_fewest_56 hl (k := 1) rfl (by rw [ey_12]; rfl) (by decide) rfl (fun ls hl => ?_)
          refine lv_goto (tgt := 4) hx hb dX4_fewest_59 (by decide) ?_
          have e9 : y_12 = nI (j_L4 + 1) := ey_12.trans (nI_1 j_L4)
          subst e9
          exact ih_L4 (j_L4 + 1) ((nI j_L4)) _ _ ls (by omega) (by subst_vars; first | exact Or.inr ⟨_, by omega, rfl⟩ | exact gF_skip hinv (fun h8 => by unfold gBit at h8; exact absurd h8 (by assumption))) hP hS (lv_sub hl [0, 1, 2, 3] rfl)
      · skip
        refine lv_iload_n hx hb dX4_fewest_4 rfl (lv_at hl 0 rfl) ?_
        refine lv_aload_n hx hb dX4_fewest_5 rfl (lv_at hl 2 rfl) ?_
        refine va_get (D := (dC, dI)) (ci := 5) (v := .int (I 2)) (C := RX4) (T := TX4) (N := 43) hx hb hts (fun _ h => List.mem_cons_of_mem _ (List.mem_append_right _ h)) hown hK hP 0 rfl rfl 2 (by decide) (hts (.fieldLink RX4 114 "FrontDoorModel" "servers" "I") (by decide +kernel)) (fun _ h9 => h9) rfl dX4_fewest_6 ?_
        refine lv_topi (fun x_13 ex_13 => ?_)
        obtain rfl : x_13 = (nI ns) := ex_13.trans hns
        refine lv_icmp_ge (tgt := 62) hx hb dX4_fewest_9 (by decide) (fun c_14 => absurd c_14 (nI_ge (by omega) (by omega))) (fun c_14 => ?_)
        refine lv_iload_n hx hb dX4_fewest_12 rfl (lv_at hl 3 rfl) ?_
        refine lv_iload_n hx hb dX4_fewest_13 rfl (lv_at hl 0 rfl) ?_
        refine lv_ishr hx hb dX4_fewest_14 ?_
        refine lv_topi (fun x_15 ex_15 => ?_)
        refine lv_iconst (v := 1) hx hb dX4_fewest_15 (by decide) ?_
        refine lv_iand hx hb dX4_fewest_16 ?_
        refine lv_topi (fun x_16 ex_16 => ?_)
        refine lv_iconst (v := 1) hx hb dX4_fewest_17 (by decide) ?_
        refine lv_icmp_ne (tgt := 56) hx hb dX4_fewest_18 (by decide) (fun c_17 => ?_) (fun c_17 => ?_)
        · skip
          have i_17 : ¬ x_16.toInt = 1 := by have h9 := pz_neq c_17; exact h9
          obtain ⟨y_18, ey_18⟩ : ∃ y : Int32, y = (nI j_L4) + 1 := ⟨_, rfl⟩
          refine lv_iinc (v := y_18) (lv' := [(3, .int y_18), (2, .int (nI q)), (0, .ref h0), (1, .int a1)]) hx hb dX4_fewest_56 hl (k := 0) rfl (by rw [ey_18]; rfl) (by decide) rfl (fun ls hl => ?_)
          refine lv_goto (tgt := 4) hx hb dX4_fewest_59 (by decide) ?_
          have e9 : y_18 = nI (j_L4 + 1) := ey_18.trans (nI_1 j_L4)
          subst e9
          exact ih_L4 (j_L4 + 1) ((nI q)) _ _ ls (by omega) (by subst_vars; first | exact Or.inr ⟨_, by omega, rfl⟩ | exact gF_skip hinv (fun h8 => by unfold gBit at h8; exact absurd h8 (by assumption))) hP hS (lv_sub hl [0, 1, 2, 3] rfl)
        · skip
          have i_17 : x_16.toInt = 1 := by have h9 := pz_eq c_17; exact h9
          refine lv_iload_n hx hb dX4_fewest_21 rfl (lv_at hl 1 rfl) ?_
          refine lv_if_lt (tgt := 54) hx hb dX4_fewest_22 (by decide) (fun c_19 => ?_) (fun c_19 => ?_)
          · skip
            have i_19 : (nI q).toInt < 0 := by have h9 := pz_lt c_19; exact h9
            refine lv_iload_n hx hb dX4_fewest_54 rfl (lv_at hl 0 rfl) ?_
            refine lv_istore_n (lv' := [(2, .int (nI j_L4)), (3, .int (nI j_L4)), (0, .ref h0), (1, .int a1)]) hx hb dX4_fewest_55 rfl hl (by decide) rfl (fun ls hl => ?_)
            obtain ⟨y_20, ey_20⟩ : ∃ y : Int32, y = (nI j_L4) + 1 := ⟨_, rfl⟩
            refine lv_iinc (v := y_20) (lv' := [(3, .int y_20), (2, .int (nI j_L4)), (0, .ref h0), (1, .int a1)]) hx hb dX4_fewest_56 hl (k := 1) rfl (by rw [ey_20]; rfl) (by decide) rfl (fun ls hl => ?_)
            refine lv_goto (tgt := 4) hx hb dX4_fewest_59 (by decide) ?_
            have e9 : y_20 = nI (j_L4 + 1) := ey_20.trans (nI_1 j_L4)
            subst e9
            exact ih_L4 (j_L4 + 1) ((nI j_L4)) _ _ ls (by omega) (by subst_vars; first | exact Or.inr ⟨_, by omega, rfl⟩ | exact gF_skip hinv (fun h8 => by unfold gBit at h8; exact absurd h8 (by assumption))) hP hS (lv_sub hl [0, 1, 2, 3] rfl)
          · skip
            have i_19 : 0 ≤ (nI q).toInt := by have h9 := pz_nlt c_19; exact h9
            refine lv_aload_n hx hb dX4_fewest_25 rfl (lv_at hl 2 rfl) ?_
            refine va_get (D := (dC, dI)) (ci := 5) (v := .ref (R 18)) (C := RX4) (T := TX4) (N := 43) hx hb hts (fun _ h => List.mem_cons_of_mem _ (List.mem_append_right _ h)) hown hK hP 0 rfl rfl 18 (by decide) (hts (.fieldLink RX4 41 "FrontDoorModel" "open" "[I") (by decide +kernel)) (fun _ h9 => h9) rfl dX4_fewest_26 ?_
            refine lv_iload_n hx hb dX4_fewest_29 rfl (lv_at hl 0 rfl) ?_
            refine va_iald hx hb hK hP 9 8 rfl rfl (vp_in_nI (by omega) (by decide)) dX4_fewest_30 ?_
            refine lv_topi (fun x_21 ex_21 => ?_)
            replace ex_21 : x_21 = (F 18) (Int32.toNatClampNeg (nI j_L4)) := ex_21
            refine lv_aload_n hx hb dX4_fewest_31 rfl (lv_at hl 2 rfl) ?_
            refine va_get (D := (dC, dI)) (ci := 5) (v := .ref (R 11)) (C := RX4) (T := TX4) (N := 43) hx hb hts (fun _ h => List.mem_cons_of_mem _ (List.mem_append_right _ h)) hown hK hP 0 rfl rfl 11 (by decide) (hts (.fieldLink RX4 20 "FrontDoorModel" "weight" "[I") (by decide +kernel)) (fun _ h9 => h9) rfl dX4_fewest_32 ?_
            refine lv_iload_n hx hb dX4_fewest_35 rfl (lv_at hl 1 rfl) ?_
            refine va_iald hx hb hK hP 2 1 rfl rfl (vp_in_nI (by omega) (by decide)) dX4_fewest_36 ?_
            refine lv_topi (fun x_22 ex_22 => ?_)
            replace ex_22 : x_22 = (F 11) (Int32.toNatClampNeg (nI q)) := ex_22
            refine lv_imul hx hb dX4_fewest_37 ?_
            refine lv_topi (fun x_23 ex_23 => ?_)
            refine lv_aload_n hx hb dX4_fewest_38 rfl (lv_at hl 2 rfl) ?_
            refine va_get (D := (dC, dI)) (ci := 5) (v := .ref (R 18)) (C := RX4) (T := TX4) (N := 43) hx hb hts (fun _ h => List.mem_cons_of_mem _ (List.mem_append_right _ h)) hown hK hP 0 rfl rfl 18 (by decide) (hts (.fieldLink RX4 41 "FrontDoorModel" "open" "[I") (by decide +kernel)) (fun _ h9 => h9) rfl dX4_fewest_39 ?_
            refine lv_iload_n hx hb dX4_fewest_42 rfl (lv_at hl 1 rfl) ?_
            refine va_iald hx hb hK hP 9 8 rfl rfl (vp_in_nI (by omega) (by decide)) dX4_fewest_43 ?_
            refine lv_topi (fun x_24 ex_24 => ?_)
            replace ex_24 : x_24 = (F 18) (Int32.toNatClampNeg (nI q)) := ex_24
            refine lv_aload_n hx hb dX4_fewest_44 rfl (lv_at hl 2 rfl) ?_
            refine va_get (D := (dC, dI)) (ci := 5) (v := .ref (R 11)) (C := RX4) (T := TX4) (N := 43) hx hb hts (fun _ h => List.mem_cons_of_mem _ (List.mem_append_right _ h)) hown hK hP 0 rfl rfl 11 (by decide) (hts (.fieldLink RX4 20 "FrontDoorModel" "weight" "[I") (by decide +kernel)) (fun _ h9 => h9) rfl dX4_fewest_45 ?_
            refine lv_iload_n hx hb dX4_fewest_48 rfl (lv_at hl 0 rfl) ?_
            refine va_iald hx hb hK hP 2 1 rfl rfl (vp_in_nI (by omega) (by decide)) dX4_fewest_49 ?_
            refine lv_topi (fun x_25 ex_25 => ?_)
            replace ex_25 : x_25 = (F 11) (Int32.toNatClampNeg (nI j_L4)) := ex_25
            refine lv_imul hx hb dX4_fewest_50 ?_
            refine lv_topi (fun x_26 ex_26 => ?_)
            refine lv_icmp_ge (tgt := 56) hx hb dX4_fewest_51 (by decide) (fun c_27 => ?_) (fun c_27 => ?_)
            · skip
              have i_27 : x_26.toInt ≤ x_23.toInt := by have h9 := pz_ge c_27; exact h9
              obtain ⟨y_28, ey_28⟩ : ∃ y : Int32, y = (nI j_L4) + 1 := ⟨_, rfl⟩
              refine lv_iinc (v := y_28) (lv' := [(3, .int y_28), (2, .int (nI q)), (0, .ref h0), (1, .int a1)]) hx hb dX4_fewest_56 hl (k := 0) rfl (by rw [ey_28]; rfl) (by decide) rfl (fun ls hl => ?_)
              refine lv_goto (tgt := 4) hx hb dX4_fewest_59 (by decide) ?_
              have e9 : y_28 = nI (j_L4 + 1) := ey_28.trans (nI_1 j_L4)
              subst e9
              exact ih_L4 (j_L4 + 1) ((nI q)) _ _ ls (by omega) (by subst_vars; first | exact Or.inr ⟨_, by omega, rfl⟩ | exact gF_skip hinv (fun h8 => by unfold gBit at h8; exact absurd h8 (by assumption))) hP hS (lv_sub hl [0, 1, 2, 3] rfl)
            · skip
              have i_27 : x_23.toInt < x_26.toInt := by have h9 := pz_nge c_27; exact h9
              refine lv_iload_n hx hb dX4_fewest_54 rfl (lv_at hl 0 rfl) ?_
              refine lv_istore_n (lv' := [(2, .int (nI j_L4)), (3, .int (nI j_L4)), (0, .ref h0), (1, .int a1)]) hx hb dX4_fewest_55 rfl hl (by decide) rfl (fun ls hl => ?_)
              obtain ⟨y_29, ey_29⟩ : ∃ y : Int32, y = (nI j_L4) + 1 := ⟨_, rfl⟩
              refine lv_iinc (v := y_29) (lv' := [(3, .int y_29), (2, .int (nI j_L4)), (0, .ref h0), (1, .int a1)]) hx hb dX4_fewest_56 hl (k := 1) rfl (by rw [ey_29]; rfl) (by decide) rfl (fun ls hl => ?_)
              refine lv_goto (tgt := 4) hx hb dX4_fewest_59 (by decide) ?_
              have e9 : y_29 = nI (j_L4 + 1) := ey_29.trans (nI_1 j_L4)
              subst e9
              exact ih_L4 (j_L4 + 1) ((nI j_L4)) _ _ ls (by omega) (by subst_vars; first | exact Or.inr ⟨_, by omega, rfl⟩ | exact gF_skip hinv (fun h8 => by unfold gBit at h8; exact absurd h8 (by assumption))) hP hS (lv_sub hl [0, 1, 2, 3] rfl)
  exact loop_L4 ns 0 ((-1)) _ _ ls (by omega) (Or.inl ⟨rfl, fun s h => absurd h (Nat.not_lt_zero s)⟩) hP hS hl
end
section
set_option maxHeartbeats 40000000 in
set_option maxRecDepth 100000 in
theorem m_X4_near (l : Launch) (dC : Nat → ClassId) (dI : Nat → Nat → Nat) (h0 : Nat) (R : Nat → Nat) (C : Nat → ClassId) (I : Nat → Int32) (F : Nat → Nat → Int32) (ns : Nat) (a1 : Int32) (a2 : Int32) (sz : Nat) (hns : I 2 = nI ns) (hbn : ns ≤ 8) : Met l yX4_near wsX4_near ({ frames := 1, cells := 0, slots := 0, locals := 23 }) (va_Pc [.ref h0, .int a1, .int a2] (pzPre (dC, dI) vwCl (gW h0 R C I F) (gT C) sz)) (va_Qi (fun (r : Int32) (_ : Unit) => (∃ s, s < ns ∧ gBit a1 s) → ∃ q, q < ns ∧ r = nI q) (fun _ _ => True) (va_A [] sz)) 0 0 (va_A [] sz) := by
  refine Met.ofW (cc := cX4_near) (maxL := 5) (ret := (some .int)) (by decide) rfl ?_
  intro p e s m args below meth c s₁ B hml hv
  obtain ⟨rfl, hsz, hP, hK, hD0⟩ := hv
  have hx := B.exec
  have hb := B.bytes
  have hr := B.returns
  have hts := atoms_spec (ws := wsX4_near) B.pre
  have hown : s.vm.findClass RX4 = some m.cls := findClass_of_methodNamed B.named
  have hlocks := B.notSynchronized
  subst hsz
  have hA : ∀ q : Nat, s.heap.size ≤ q → va_A [] s.heap.size q := fun q h => Or.inr h
  have hD := hD0
  generalize va_A [] s.heap.size = A at hA ⊢
  have hS : va_S A s.heap s.heap [] := va_S.rf
  have hP : va_P (dC, dI) vwCl (gW h0 R C I F) s.heap := hP
  have hnsI : (nI ns).toInt = (ns : Int) := nI_toInt (by omega)
  have hl := lv_entry ([.ref h0, .int a1, .int a2]) (n := 5) (Nat.le_of_ble_eq_true rfl)
  rw [lg_entry_eq]
  generalize (lg_sl ([.ref h0, .int a1, .int a2]) ++ List.replicate (5 - (lg_sl ([.ref h0, .int a1, .int a2])).length) Slot.unset).toArray = ls at hl ⊢
  have hl : lv_has ls 5 [(0, .ref h0), (1, .int a1), (2, .int a2)] := hl
  refine lv_iconst (v := 0) hx hb dX4_near_0 (by decide) ?_
  refine lv_istore_n (lv' := [(3, .int 0), (0, .ref h0), (1, .int a1), (2, .int a2)]) hx hb dX4_near_1 rfl hl (by decide) rfl (fun ls hl => ?_)
  refine lv_iconst (v := 0) hx hb dX4_near_2 (by decide) ?_
  refine lv_istore (lv' := [(4, .int 0), (3, .int 0), (0, .ref h0), (1, .int a1), (2, .int a2)]) hx hb dX4_near_3 hl (by decide) rfl (fun ls hl => ?_)
  have loop_L5 : ∀ (k j_L5 : Nat) (b2 : Int32) (H : Heap) (locs : List Loc) (ls : Array Slot), j_L5 + k = ns → gMay b2 j_L5 → va_P (dC, dI) vwCl (gW h0 R C I F) H → va_S A s.heap H locs → lv_has ls 5 [(4, .int (nI j_L5)), (3, .int b2), (0, .ref h0), (1, .int a1), (2, .int a2)] → W p l e (headSpec wsX4_near { frames := 1, cells := 0, slots := 0, locals := 23 }).room s m ([.ref h0, .int a1, .int a2] : List Value).toArray below meth c H locs 0 0 (MQ below (va_Qi (fun (r : Int32) (_ : Unit) => (∃ s, s < ns ∧ gBit a1 s) → ∃ q, q < ns ∧ r = nI q) (fun _ _ => True) A) ([.ref h0, .int a1, .int a2] : List Value).toArray s 0 0 A) (F0 m 5 ls []) := by
    intro k
    induction k with
    | zero =>
      intro j_L5 b2 H locs ls hj_L5 hinv hP hS hl
      refine lv_iload hx hb dX4_near_5 (lv_at hl 0 rfl) ?_
      refine lv_aload_n hx hb dX4_near_7 rfl (lv_at hl 2 rfl) ?_
      refine va_get (D := (dC, dI)) (ci := 5) (v := .int (I 2)) (C := RX4) (T := TX4) (N := 43) hx hb hts (fun _ h => List.mem_cons_of_mem _ (List.mem_append_right _ h)) hown hK hP 0 rfl rfl 2 (by decide) (hts (.fieldLink RX4 114 "FrontDoorModel" "servers" "I") (by decide +kernel)) (fun _ h9 => h9) rfl dX4_near_8 ?_
      refine lv_topi (fun x_1 ex_1 => ?_)
      obtain rfl : x_1 = (nI ns) := ex_1.trans hns
      refine lv_icmp_ge (tgt := 50) hx hb dX4_near_11 (by decide) (fun c_2 => ?_) (fun c_2 => absurd (nI_le (by omega) (by omega)) c_2)
      refine lv_aload_n hx hb dX4_near_50 rfl (lv_at hl 2 rfl) ?_
      refine lv_iload_n hx hb dX4_near_51 rfl (lv_at hl 1 rfl) ?_
      refine lv_if_eq (tgt := 59) hx hb dX4_near_52 (by decide) (fun c_3 => ?_) (fun c_3 => ?_)
      · skip
        have i_3 : b2.toInt = 0 := by have h9 := pz_eq c_3; exact h9
        refine lv_iload_n hx hb dX4_near_59 rfl (lv_at hl 3 rfl) ?_
        have hPc := hP.sub (ws' := (gW h0 R C I F)) [0, 1, 2, 3, 4, 5, 6, 7, 8, 9, 10, 11, 12, 13, 14, 15, 16, 17, 18, 19, 20, 21, 22, 23, 24, 25, 26, 27, 28, 29, 30, 31, 32] rfl
        have hDc := hD.sub (ws' := (gW h0 R C I F)) [0, 1, 2, 3, 4, 5, 6, 7, 8, 9, 10, 11, 12, 13, 14, 15, 16, 17, 18, 19, 20, 21, 22, 23, 24, 25, 26, 27, 28, 29, 30, 31, 32] (by decide) rfl
        have hKc := hK.sub (tys' := (gT C)) [0, 1, 2, 3, 4, 5, 6, 7, 8, 9, 10, 11, 12, 13, 14, 15, 16, 17, 18, 19, 20, 21, 22, 23, 24, 25, 26, 27, 28, 29, 30, 31] rfl
        have hFc := pz_f hA hS
        refine va_calli (va_runV (As := [.int a1]) (rest := []) ⟨hx, hb, hml, hown, hts⟩ (m_X4_fewest l dC dI h0 R C I F ns a1 H.size hns hbn) (cwV 1 hts gX4_near_X4_fewest rfl rfl rfl (by decide +kernel) ⟨Nat.le_of_ble_eq_true rfl, Nat.le_of_ble_eq_true rfl⟩) ⟨pz_blind, va_recv hKc hPc (ci := 5) (q0 := 0) rfl rfl, fun U hU hW => ⟨rfl, pz_at hPc hKc hDc hU hW⟩⟩ rfl rfl hl.1 rfl (lv_room (Nat.le_of_ble_eq_true rfl)) dX4_near_60 ⟨Nat.le_of_ble_eq_true rfl, Nat.le_of_ble_eq_true rfl⟩) hS (fun q _ h => hFc q h) hFc (fun r_4 u t H locs ht hvm hw hB hz1 hk1 hS => ?_)
        have hP := pz_keep hP hk1
        exact W.iret (v := r_4) hx hb hr (fun t ht hW => ⟨⟨r_4, (), rfl, (fun h8 => hw (by first | exact h8 | exact (hinv.resolve_left (by assumption)).elim (fun s7 h7 => ⟨s7, by omega, h7.2⟩))), trivial⟩, hS.F ht⟩) hS.2.2 dX4_near_63
      · skip
        have i_3 : ¬ b2.toInt = 0 := by have h9 := pz_neq c_3; exact h9
        refine lv_iload_n hx hb dX4_near_55 rfl (lv_at hl 1 rfl) ?_
        refine lv_goto (tgt := 60) hx hb dX4_near_56 (by decide) ?_
        have hPc := hP.sub (ws' := (gW h0 R C I F)) [0, 1, 2, 3, 4, 5, 6, 7, 8, 9, 10, 11, 12, 13, 14, 15, 16, 17, 18, 19, 20, 21, 22, 23, 24, 25, 26, 27, 28, 29, 30, 31, 32] rfl
        have hDc := hD.sub (ws' := (gW h0 R C I F)) [0, 1, 2, 3, 4, 5, 6, 7, 8, 9, 10, 11, 12, 13, 14, 15, 16, 17, 18, 19, 20, 21, 22, 23, 24, 25, 26, 27, 28, 29, 30, 31, 32] (by decide) rfl
        have hKc := hK.sub (tys' := (gT C)) [0, 1, 2, 3, 4, 5, 6, 7, 8, 9, 10, 11, 12, 13, 14, 15, 16, 17, 18, 19, 20, 21, 22, 23, 24, 25, 26, 27, 28, 29, 30, 31] rfl
        have hFc := pz_f hA hS
        refine va_calli (va_runV (As := [.int b2]) (rest := []) ⟨hx, hb, hml, hown, hts⟩ (m_X4_fewest l dC dI h0 R C I F ns b2 H.size hns hbn) (cwV 1 hts gX4_near_X4_fewest rfl rfl rfl (by decide +kernel) ⟨Nat.le_of_ble_eq_true rfl, Nat.le_of_ble_eq_true rfl⟩) ⟨pz_blind, va_recv hKc hPc (ci := 5) (q0 := 0) rfl rfl, fun U hU hW => ⟨rfl, pz_at hPc hKc hDc hU hW⟩⟩ rfl rfl hl.1 rfl (lv_room (Nat.le_of_ble_eq_true rfl)) dX4_near_60 ⟨Nat.le_of_ble_eq_true rfl, Nat.le_of_ble_eq_true rfl⟩) hS (fun q _ h => hFc q h) hFc (fun r_5 u t H locs ht hvm hw hB hz1 hk1 hS => ?_)
        have hP := pz_keep hP hk1
        exact W.iret (v := r_5) hx hb hr (fun t ht hW => ⟨⟨r_5, (), rfl, (fun h8 => hw (by first | exact h8 | exact (hinv.resolve_left (by assumption)).elim (fun s7 h7 => ⟨s7, by omega, h7.2⟩))), trivial⟩, hS.F ht⟩) hS.2.2 dX4_near_63
    | succ k ih_L5 =>
      intro j_L5 b2 H locs ls hj_L5 hinv hP hS hl
      refine lv_iload hx hb dX4_near_5 (lv_at hl 0 rfl) ?_
      refine lv_aload_n hx hb dX4_near_7 rfl (lv_at hl 2 rfl) ?_
      refine va_get (D := (dC, dI)) (ci := 5) (v := .int (I 2)) (C := RX4) (T := TX4) (N := 43) hx hb hts (fun _ h => List.mem_cons_of_mem _ (List.mem_append_right _ h)) hown hK hP 0 rfl rfl 2 (by decide) (hts (.fieldLink RX4 114 "FrontDoorModel" "servers" "I") (by decide +kernel)) (fun _ h9 => h9) rfl dX4_near_8 ?_
      refine lv_topi (fun x_6 ex_6 => ?_)
      obtain rfl : x_6 = (nI ns) := ex_6.trans hns
      refine lv_icmp_ge (tgt := 50) hx hb dX4_near_11 (by decide) (fun c_7 => absurd c_7 (nI_ge (by omega) (by omega))) (fun c_7 => ?_)
      refine lv_iload_n hx hb dX4_near_14 rfl (lv_at hl 3 rfl) ?_
      refine lv_iload hx hb dX4_near_15 (lv_at hl 0 rfl) ?_
      refine lv_ishr hx hb dX4_near_17 ?_
      refine lv_topi (fun x_8 ex_8 => ?_)
      refine lv_iconst (v := 1) hx hb dX4_near_18 (by decide) ?_
      refine lv_iand hx hb dX4_near_19 ?_
      refine lv_topi (fun x_9 ex_9 => ?_)
      refine lv_iconst (v := 1) hx hb dX4_near_20 (by decide) ?_
      refine lv_icmp_ne (tgt := 44) hx hb dX4_near_21 (by decide) (fun c_10 => ?_) (fun c_10 => ?_)
      · skip
        have i_10 : ¬ x_9.toInt = 1 := by have h9 := pz_neq c_10; exact h9
        obtain ⟨y_11, ey_11⟩ : ∃ y : Int32, y = (nI j_L5) + 1 := ⟨_, rfl⟩
        refine lv_iinc (v := y_11) (lv' := [(4, .int y_11), (3, .int b2), (0, .ref h0), (1, .int a1), (2, .int a2)]) hx hb dX4_near_44 hl (k := 0) rfl (by rw [ey_11]; rfl) (by decide) rfl (fun ls hl => ?_)
        refine lv_goto (tgt := 5) hx hb dX4_near_47 (by decide) ?_
        have e9 : y_11 = nI (j_L5 + 1) := ey_11.trans (nI_1 j_L5)
        subst e9
        exact ih_L5 (j_L5 + 1) (b2) _ _ ls (by omega) (by first | exact gMay_up hinv | (subst_vars; exact gMay_or (by omega))) hP hS (lv_sub hl [0, 1, 2, 3, 4] rfl)
      · skip
        have i_10 : x_9.toInt = 1 := by have h9 := pz_eq c_10; exact h9
        refine lv_aload_n hx hb dX4_near_24 rfl (lv_at hl 2 rfl) ?_
        refine va_get (D := (dC, dI)) (ci := 5) (v := .ref (R 12)) (C := RX4) (T := TX4) (N := 43) hx hb hts (fun _ h => List.mem_cons_of_mem _ (List.mem_append_right _ h)) hown hK hP 0 rfl rfl 12 (by decide) (hts (.fieldLink RX4 23 "FrontDoorModel" "zone" "[I") (by decide +kernel)) (fun _ h9 => h9) rfl dX4_near_25 ?_
        refine lv_iload hx hb dX4_near_28 (lv_at hl 0 rfl) ?_
        refine va_iald hx hb hK hP 3 2 rfl rfl (vp_in_nI (by omega) (by decide)) dX4_near_30 ?_
        refine lv_topi (fun x_12 ex_12 => ?_)
        replace ex_12 : x_12 = (F 12) (Int32.toNatClampNeg (nI j_L5)) := ex_12
        refine lv_iload_n hx hb dX4_near_31 rfl (lv_at hl 4 rfl) ?_
        refine lv_iconst (v := 4) hx hb dX4_near_32 (by decide) ?_
        refine lv_irem hx hb dX4_near_33 (by decide) ?_
        refine lv_topi (fun x_13 ex_13 => ?_)
        refine lv_icmp_ne (tgt := 44) hx hb dX4_near_34 (by decide) (fun c_14 => ?_) (fun c_14 => ?_)
        · skip
          have i_14 : ¬ x_12.toInt = x_13.toInt := by have h9 := pz_neq c_14; exact h9
          obtain ⟨y_15, ey_15⟩ : ∃ y : Int32, y = (nI j_L5) + 1 := ⟨_, rfl⟩
          refine lv_iinc (v := y_15) (lv' := [(4, .int y_15), (3, .int b2), (0, .ref h0), (1, .int a1), (2, .int a2)]) hx hb dX4_near_44 hl (k := 0) rfl (by rw [ey_15]; rfl) (by decide) rfl (fun ls hl => ?_)
          refine lv_goto (tgt := 5) hx hb dX4_near_47 (by decide) ?_
          have e9 : y_15 = nI (j_L5 + 1) := ey_15.trans (nI_1 j_L5)
          subst e9
          exact ih_L5 (j_L5 + 1) (b2) _ _ ls (by omega) (by first | exact gMay_up hinv | (subst_vars; exact gMay_or (by omega))) hP hS (lv_sub hl [0, 1, 2, 3, 4] rfl)
        · skip
          have i_14 : x_12.toInt = x_13.toInt := by have h9 := pz_eq c_14; exact h9
          refine lv_iload_n hx hb dX4_near_37 rfl (lv_at hl 1 rfl) ?_
          refine lv_iconst (v := 1) hx hb dX4_near_38 (by decide) ?_
          refine lv_iload hx hb dX4_near_39 (lv_at hl 0 rfl) ?_
          refine lv_ishl hx hb dX4_near_41 ?_
          refine lv_topi (fun x_16 ex_16 => ?_)
          refine lv_ior hx hb dX4_near_42 ?_
          refine lv_topi (fun x_17 ex_17 => ?_)
          refine lv_istore_n (lv' := [(3, .int x_17), (4, .int (nI j_L5)), (0, .ref h0), (1, .int a1), (2, .int a2)]) hx hb dX4_near_43 rfl hl (by decide) rfl (fun ls hl => ?_)
          obtain ⟨y_18, ey_18⟩ : ∃ y : Int32, y = (nI j_L5) + 1 := ⟨_, rfl⟩
          refine lv_iinc (v := y_18) (lv' := [(4, .int y_18), (3, .int x_17), (0, .ref h0), (1, .int a1), (2, .int a2)]) hx hb dX4_near_44 hl (k := 1) rfl (by rw [ey_18]; rfl) (by decide) rfl (fun ls hl => ?_)
          refine lv_goto (tgt := 5) hx hb dX4_near_47 (by decide) ?_
          have e9 : y_18 = nI (j_L5 + 1) := ey_18.trans (nI_1 j_L5)
          subst e9
          exact ih_L5 (j_L5 + 1) (x_17) _ _ ls (by omega) (by first | exact gMay_up hinv | (subst_vars; exact gMay_or (by omega))) hP hS (lv_sub hl [0, 1, 2, 3, 4] rfl)
  exact loop_L5 ns 0 (0) _ _ ls (by omega) (gMay_0 0) hP hS hl
end
section
/-- drained: DRAINING or GONE -/
def gDr (x : Int32) : Prop := x = 3 ∨ x = 4
theorem gd_0 : ¬ gDr 0 := by unfold gDr; decide
theorem gd_n2 {x : Int32} (h : x = 2) : ¬ gDr x := by rw [h]; unfold gDr; decide
theorem gd_upd {f : Nat → Int32} {j : Nat} {v : Int32} (h : ¬ gDr (f j)) (hv : ¬ gDr v) : ∀ s, gDr (upd f j v s) ↔ gDr (f s) := by
  intro s
  by_cases e : s = j
  · subst e
    rw [pk_us]
    exact ⟨fun q => absurd q hv, fun q => absurd q h⟩
  · rw [pk_un e]
end
section
set_option maxHeartbeats 40000000 in
set_option maxRecDepth 100000 in
theorem m_X4_answer (l : Launch) (dC : Nat → ClassId) (dI : Nat → Nat → Nat) (h0 : Nat) (R : Nat → Nat) (C : Nat → ClassId) (I : Nat → Int32) (F : Nat → Nat → Int32) (sj : Nat) (sz : Nat) (hsj : sj < 8) : Met l yX4_answer wsX4_answer ({ frames := 0, cells := 0, slots := 0, locals := 0 }) (va_Pc [.ref h0, .int (nI sj)] (pzPre (dC, dI) vwCl (gW h0 R C I F) (gT C) sz)) (va_Qv (fun (u : (Nat → Int32) × (Nat → Nat → Int32)) => u.1 = I ∧ (∀ k, k < 20 ∨ 24 < k → k ≠ 17 → u.2 k = F k) ∧ ∀ s, gDr (u.2 17 s) ↔ gDr (F 17 s)) (fun (u : (Nat → Int32) × (Nat → Nat → Int32)) (t : State) => va_P (dC, dI) vwCl (gW h0 R C u.1 u.2) t.heap ∧ va_K (dC, dI) vwCl (gT C) t ∧ va_D (va_A (gW h0 R C I F) sz) (gW h0 R C u.1 u.2)) (va_A (gW h0 R C I F) sz)) 0 0 (va_A (gW h0 R C I F) sz) := by
  refine Met.ofW (cc := cX4_answer) (maxL := 2) (ret := none) (by decide) rfl ?_
  intro p e s m args below meth c s₁ B hml hv
  obtain ⟨rfl, hsz, hP, hK, hD0⟩ := hv
  have hx := B.exec
  have hb := B.bytes
  have hr := B.returns
  have hts := atoms_spec (ws := wsX4_answer) B.pre
  have hown : s.vm.findClass RX4 = some m.cls := findClass_of_methodNamed B.named
  have hlocks := B.notSynchronized
  subst hsz
  have hD := hD0.self (sz := s.heap.size)
  generalize hAe : va_A (gW h0 R C I F) s.heap.size = A at hD ⊢
  have hA : ∀ q : Nat, s.heap.size ≤ q → A q := fun q h => by rw [← hAe]; exact Or.inr h
  have hS : va_S A s.heap s.heap [] := va_S.rf
  have hP : va_P (dC, dI) vwCl (gW h0 R C I F) s.heap := hP
  have hl := lv_entry ([.ref h0, .int (nI sj)]) (n := 2) (Nat.le_of_ble_eq_true rfl)
  rw [lg_entry_eq]
  generalize (lg_sl ([.ref h0, .int (nI sj)]) ++ List.replicate (2 - (lg_sl ([.ref h0, .int (nI sj)])).length) Slot.unset).toArray = ls at hl ⊢
  have hl : lv_has ls 2 [(0, .ref h0), (1, .int (nI sj))] := hl
  refine lv_aload_n hx hb dX4_answer_0 rfl (lv_at hl 0 rfl) ?_
  refine va_get (D := (dC, dI)) (ci := 5) (v := .ref (R 20)) (C := RX4) (T := TX4) (N := 43) hx hb hts (fun _ h => List.mem_cons_of_mem _ (List.mem_append_right _ h)) hown hK hP 0 rfl rfl 20 (by decide) (hts (.fieldLink RX4 47 "FrontDoorModel" "answers" "[I") (by decide +kernel)) (fun _ h9 => h9) rfl dX4_answer_1 ?_
  refine lv_iload_n hx hb dX4_answer_4 rfl (lv_at hl 1 rfl) ?_
  refine lv_dup2_11 hx hb dX4_answer_5 rfl rfl ?_
  refine va_iald hx hb hK hP 11 10 rfl rfl (vp_in_nI (by omega) (by decide)) dX4_answer_6 ?_
  refine lv_topi (fun x_1 ex_1 => ?_)
  replace ex_1 : x_1 = (F 20) (Int32.toNatClampNeg (nI sj)) := ex_1
  refine lv_iconst (v := 1) hx hb dX4_answer_7 (by decide) ?_
  refine lv_iadd hx hb dX4_answer_8 ?_
  refine lv_topi (fun x_2 ex_2 => ?_)
  refine va_iast hx hb hK hP hD hS 11 10 rfl rfl (vp_in_nI (by omega) (by decide)) dX4_answer_9 (fun H locs hP hD hS => ?_)
  have hP : va_P (dC, dI) vwCl (gW h0 R C I (va_up F 20 (upd (F 20) (Int32.toNatClampNeg (nI sj)) x_2))) H := hP
  have hD : va_D A (gW h0 R C I (va_up F 20 (upd (F 20) (Int32.toNatClampNeg (nI sj)) x_2))) := hD
  refine lv_aload_n hx hb dX4_answer_10 rfl (lv_at hl 0 rfl) ?_
  refine va_get (D := (dC, dI)) (ci := 5) (v := .ref (R 22)) (C := RX4) (T := TX4) (N := 43) hx hb hts (fun _ h => List.mem_cons_of_mem _ (List.mem_append_right _ h)) hown hK hP 0 rfl rfl 22 (by decide) (hts (.fieldLink RX4 53 "FrontDoorModel" "row" "[I") (by decide +kernel)) (fun _ h9 => h9) rfl dX4_answer_11 ?_
  refine lv_iload_n hx hb dX4_answer_14 rfl (lv_at hl 1 rfl) ?_
  refine lv_iconst (v := 0) hx hb dX4_answer_15 (by decide) ?_
  refine va_iast hx hb hK hP hD hS 13 12 rfl rfl (vp_in_nI (by omega) (by decide)) dX4_answer_16 (fun H locs hP hD hS => ?_)
  have hP : va_P (dC, dI) vwCl (gW h0 R C I (va_up (va_up F 20 (upd (F 20) (Int32.toNatClampNeg (nI sj)) x_2)) 22 (upd (F 22) (Int32.toNatClampNeg (nI sj)) 0))) H := hP
  have hD : va_D A (gW h0 R C I (va_up (va_up F 20 (upd (F 20) (Int32.toNatClampNeg (nI sj)) x_2)) 22 (upd (F 22) (Int32.toNatClampNeg (nI sj)) 0))) := hD
  refine lv_aload_n hx hb dX4_answer_17 rfl (lv_at hl 0 rfl) ?_
  refine va_get (D := (dC, dI)) (ci := 5) (v := .ref (R 24)) (C := RX4) (T := TX4) (N := 43) hx hb hts (fun _ h => List.mem_cons_of_mem _ (List.mem_append_right _ h)) hown hK hP 0 rfl rfl 24 (by decide) (hts (.fieldLink RX4 59 "FrontDoorModel" "penalty" "[I") (by decide +kernel)) (fun _ h9 => h9) rfl dX4_answer_18 ?_
  refine lv_iload_n hx hb dX4_answer_21 rfl (lv_at hl 1 rfl) ?_
  refine lv_bipush (v := 10) hx hb dX4_answer_22 (by decide) ?_
  refine va_iast hx hb hK hP hD hS 15 14 rfl rfl (vp_in_nI (by omega) (by decide)) dX4_answer_24 (fun H locs hP hD hS => ?_)
  have hP : va_P (dC, dI) vwCl (gW h0 R C I (va_up (va_up (va_up F 20 (upd (F 20) (Int32.toNatClampNeg (nI sj)) x_2)) 22 (upd (F 22) (Int32.toNatClampNeg (nI sj)) 0)) 24 (upd (F 24) (Int32.toNatClampNeg (nI sj)) 10))) H := hP
  have hD : va_D A (gW h0 R C I (va_up (va_up (va_up F 20 (upd (F 20) (Int32.toNatClampNeg (nI sj)) x_2)) 22 (upd (F 22) (Int32.toNatClampNeg (nI sj)) 0)) 24 (upd (F 24) (Int32.toNatClampNeg (nI sj)) 10))) := hD
  refine lv_aload_n hx hb dX4_answer_25 rfl (lv_at hl 0 rfl) ?_
  refine va_get (D := (dC, dI)) (ci := 5) (v := .ref (R 17)) (C := RX4) (T := TX4) (N := 43) hx hb hts (fun _ h => List.mem_cons_of_mem _ (List.mem_append_right _ h)) hown hK hP 0 rfl rfl 17 (by decide) (hts (.fieldLink RX4 38 "FrontDoorModel" "health" "[I") (by decide +kernel)) (fun _ h9 => h9) rfl dX4_answer_26 ?_
  refine lv_iload_n hx hb dX4_answer_29 rfl (lv_at hl 1 rfl) ?_
  refine va_iald hx hb hK hP 8 7 rfl rfl (vp_in_nI (by omega) (by decide)) dX4_answer_30 ?_
  refine lv_topi (fun x_3 ex_3 => ?_)
  replace ex_3 : x_3 = (F 17) (Int32.toNatClampNeg (nI sj)) := ex_3
  refine lv_iconst (v := 2) hx hb dX4_answer_31 (by decide) ?_
  refine lv_icmp_ne (tgt := 42) hx hb dX4_answer_32 (by decide) (fun c_4 => ?_) (fun c_4 => ?_)
  · skip
    have i_4 : ¬ x_3.toInt = 2 := by have h9 := pz_neq c_4; exact h9
    exact W.vret hx hb hr (fun t ht hW => ⟨⟨(I, (va_up (va_up (va_up F 20 (upd (F 20) (Int32.toNatClampNeg (nI sj)) x_2)) 22 (upd (F 22) (Int32.toNatClampNeg (nI sj)) 0)) 24 (upd (F 24) (Int32.toNatClampNeg (nI sj)) 10))), rfl, (by refine ⟨rfl, fun k h1 h2 => ?_, ?_⟩; { simp only [va_up]; (repeat' split) <;> first | rfl | (exfalso; omega) }; { first | exact fun s => Iff.rfl | (subst_vars; exact gd_upd (by first | exact gd_n2 (by assumption)) gd_0) }), by rw [ht]; exact hP, va_K.moved hW.alike hK, hD⟩, hS.F ht⟩) hS.2.2 dX4_answer_42
  · skip
    have i_4 : x_3.toInt = 2 := by have h9 := pz_eq c_4; exact h9
    refine lv_aload_n hx hb dX4_answer_35 rfl (lv_at hl 0 rfl) ?_
    refine va_get (D := (dC, dI)) (ci := 5) (v := .ref (R 17)) (C := RX4) (T := TX4) (N := 43) hx hb hts (fun _ h => List.mem_cons_of_mem _ (List.mem_append_right _ h)) hown hK hP 0 rfl rfl 17 (by decide) (hts (.fieldLink RX4 38 "FrontDoorModel" "health" "[I") (by decide +kernel)) (fun _ h9 => h9) rfl dX4_answer_36 ?_
    refine lv_iload_n hx hb dX4_answer_39 rfl (lv_at hl 1 rfl) ?_
    refine lv_iconst (v := 0) hx hb dX4_answer_40 (by decide) ?_
    refine va_iast hx hb hK hP hD hS 8 7 rfl rfl (vp_in_nI (by omega) (by decide)) dX4_answer_41 (fun H locs hP hD hS => ?_)
    have hP : va_P (dC, dI) vwCl (gW h0 R C I (va_up (va_up (va_up (va_up F 17 (upd (F 17) (Int32.toNatClampNeg (nI sj)) 0)) 20 (upd (F 20) (Int32.toNatClampNeg (nI sj)) x_2)) 22 (upd (F 22) (Int32.toNatClampNeg (nI sj)) 0)) 24 (upd (F 24) (Int32.toNatClampNeg (nI sj)) 10))) H := hP
    have hD : va_D A (gW h0 R C I (va_up (va_up (va_up (va_up F 17 (upd (F 17) (Int32.toNatClampNeg (nI sj)) 0)) 20 (upd (F 20) (Int32.toNatClampNeg (nI sj)) x_2)) 22 (upd (F 22) (Int32.toNatClampNeg (nI sj)) 0)) 24 (upd (F 24) (Int32.toNatClampNeg (nI sj)) 10))) := hD
    exact W.vret hx hb hr (fun t ht hW => ⟨⟨(I, (va_up (va_up (va_up (va_up F 17 (upd (F 17) (Int32.toNatClampNeg (nI sj)) 0)) 20 (upd (F 20) (Int32.toNatClampNeg (nI sj)) x_2)) 22 (upd (F 22) (Int32.toNatClampNeg (nI sj)) 0)) 24 (upd (F 24) (Int32.toNatClampNeg (nI sj)) 10))), rfl, (by refine ⟨rfl, fun k h1 h2 => ?_, ?_⟩; { simp only [va_up]; (repeat' split) <;> first | rfl | (exfalso; omega) }; { first | exact fun s => Iff.rfl | (subst_vars; exact gd_upd (by first | exact gd_n2 (by assumption)) gd_0) }), by rw [ht]; exact hP, va_K.moved hW.alike hK, hD⟩, hS.F ht⟩) hS.2.2 dX4_answer_42
end
section
theorem pz_posne {x : Int32} (c : ¬ x ≤ 0) : ¬ x = 0 := fun h => c (by rw [h]; decide)
theorem gk_at {f : Nat → Int32} {j : Nat} {v : Int32} (h : f j = v) (hj : j < 2 ^ 31) : f (Int32.toNatClampNeg (nI j)) = v := by rw [nI_clamp hj]; exact h
theorem gk_eq {f : Nat → Int32} {j : Nat} {v : Int32} (hj : j < 2 ^ 31) : upd f (Int32.toNatClampNeg (nI j)) v = upd f j v := by rw [nI_clamp hj]
end
