
/-! ===== BEGIN printed: names, fields, word lists, decode rows ===== -/
def RX0 : String := "FrontDoor$Asking"
def TX0 : u_T := fun k => match k with
  | 0 => ("FrontDoor$Asking", "server", "LFrontDoor$Server;", true)
  | 1 => ("FrontDoor$Asking", "since", "I", true)
  | 2 => ("FrontDoor$Asking", "over", "I", true)
  | _ => ("FrontDoor$Asking", "fails", "Z", true)
def tyX0 : Nat → FieldType := fun k => match k with
  | 0 => .object "FrontDoor$Server"
  | 1 => .int
  | 2 => .int
  | _ => .boolean
theorem nmX0 : ∀ a, a < 4 → ∀ b, b < 4 → a ≠ b → (TX0 a).2.1 ≠ (TX0 b).2.1 := by decide +kernel
theorem tyX0_ok : ∀ k, k < 4 → parseFieldDescriptor (TX0 k).2.2.1 = some (tyX0 k) := by decide +kernel
abbrev cX0_init : ByteArray := prog_2_method_1_code
def yX0_init : MethodName := ⟨RX0, "<init>", "(LFrontDoor$Server;IIZ)V"⟩
def RX1 : String := "FrontDoor$Call"
def TX1 : u_T := fun k => match k with
  | 0 => ("FrontDoor$Call", "number", "I", true)
  | 1 => ("FrontDoor$Call", "key", "I", true)
  | 2 => ("FrontDoor$Call", "grade", "I", true)
  | 3 => ("FrontDoor$Call", "came", "I", true)
  | 4 => ("FrontDoor$Call", "due", "I", true)
  | 5 => ("FrontDoor$Call", "safe", "Z", true)
  | 6 => ("FrontDoor$Call", "state", "I", false)
  | 7 => ("FrontDoor$Call", "tried", "I", false)
  | 8 => ("FrontDoor$Call", "ended", "I", false)
  | 9 => ("FrontDoor$Call", "answerer", "I", false)
  | 10 => ("FrontDoor$Call", "first", "LFrontDoor$Asking;", false)
  | _ => ("FrontDoor$Call", "second", "LFrontDoor$Asking;", false)
def tyX1 : Nat → FieldType := fun k => match k with
  | 0 => .int
  | 1 => .int
  | 2 => .int
  | 3 => .int
  | 4 => .int
  | 5 => .boolean
  | 6 => .int
  | 7 => .int
  | 8 => .int
  | 9 => .int
  | 10 => .object "FrontDoor$Asking"
  | _ => .object "FrontDoor$Asking"
theorem nmX1 : ∀ a, a < 12 → ∀ b, b < 12 → a ≠ b → (TX1 a).2.1 ≠ (TX1 b).2.1 := by decide +kernel
theorem tyX1_ok : ∀ k, k < 12 → parseFieldDescriptor (TX1 k).2.2.1 = some (tyX1 k) := by decide +kernel
abbrev cX1_init : ByteArray := prog_3_method_1_code
def yX1_init : MethodName := ⟨RX1, "<init>", "(IIIIIZ)V"⟩
abbrev cX1_hasEnded : ByteArray := prog_3_method_2_code
def yX1_hasEnded : MethodName := ⟨RX1, "hasEnded", "()Z"⟩
abbrev cX1_goesAheadOf : ByteArray := prog_3_method_3_code
def yX1_goesAheadOf : MethodName := ⟨RX1, "goesAheadOf", "(LFrontDoor$Call;)Z"⟩
abbrev cX1_begin : ByteArray := prog_3_method_4_code
def yX1_begin : MethodName := ⟨RX1, "begin", "(LFrontDoor$Asking;)V"⟩
abbrev cX1_letGo : ByteArray := prog_3_method_5_code
def yX1_letGo : MethodName := ⟨RX1, "letGo", "(LFrontDoor$Asking;)V"⟩
abbrev cX1_callOffAll : ByteArray := prog_3_method_6_code
def yX1_callOffAll : MethodName := ⟨RX1, "callOffAll", "()V"⟩
abbrev cX1_tell : ByteArray := prog_3_method_7_code
def yX1_tell : MethodName := ⟨RX1, "tell", "(I)I"⟩
def RX2 : String := "FrontDoor$Server"
def TX2 : u_T := fun k => match k with
  | 0 => ("FrontDoor$Server", "number", "I", true)
  | 1 => ("FrontDoor$Server", "zone", "I", true)
  | 2 => ("FrontDoor$Server", "weight", "I", false)
  | 3 => ("FrontDoor$Server", "room", "I", false)
  | 4 => ("FrontDoor$Server", "pace", "I", false)
  | 5 => ("FrontDoor$Server", "breaks", "I", false)
  | 6 => ("FrontDoor$Server", "mute", "I", false)
  | 7 => ("FrontDoor$Server", "health", "I", false)
  | 8 => ("FrontDoor$Server", "open", "I", false)
  | 9 => ("FrontDoor$Server", "asked", "I", false)
  | 10 => ("FrontDoor$Server", "answers", "I", false)
  | 11 => ("FrontDoor$Server", "failures", "I", false)
  | 12 => ("FrontDoor$Server", "row", "I", false)
  | 13 => ("FrontDoor$Server", "until", "I", false)
  | 14 => ("FrontDoor$Server", "penalty", "I", false)
  | 15 => ("FrontDoor$Server", "outs", "I", false)
  | _ => ("FrontDoor$Server", "credit", "I", false)
def tyX2 : Nat → FieldType := fun k => match k with
  | 0 => .int
  | 1 => .int
  | 2 => .int
  | 3 => .int
  | 4 => .int
  | 5 => .int
  | 6 => .int
  | 7 => .int
  | 8 => .int
  | 9 => .int
  | 10 => .int
  | 11 => .int
  | 12 => .int
  | 13 => .int
  | 14 => .int
  | 15 => .int
  | _ => .int
theorem nmX2 : ∀ a, a < 17 → ∀ b, b < 17 → a ≠ b → (TX2 a).2.1 ≠ (TX2 b).2.1 := by decide +kernel
theorem tyX2_ok : ∀ k, k < 17 → parseFieldDescriptor (TX2 k).2.2.1 = some (tyX2 k) := by decide +kernel
abbrev cX2_init : ByteArray := prog_4_method_1_code
def yX2_init : MethodName := ⟨RX2, "<init>", "(IIIIII)V"⟩
abbrev cX2_mayBeAsked : ByteArray := prog_4_method_2_code
def yX2_mayBeAsked : MethodName := ⟨RX2, "mayBeAsked", "(I)Z"⟩
abbrev cX2_placeOfMark : ByteArray := prog_4_method_3_code
def yX2_placeOfMark : MethodName := ⟨RX2, "placeOfMark", "(I)I"⟩
abbrev cX2_wayFrom : ByteArray := prog_4_method_4_code
def yX2_wayFrom : MethodName := ⟨RX2, "wayFrom", "(I)I"⟩
abbrev cX2_takeAsking : ByteArray := prog_4_method_5_code
def yX2_takeAsking : MethodName := ⟨RX2, "takeAsking", "(I)LFrontDoor$Asking;"⟩
abbrev cX2_answer : ByteArray := prog_4_method_6_code
def yX2_answer : MethodName := ⟨RX2, "answer", "()V"⟩
abbrev cX2_goOut : ByteArray := prog_4_method_7_code
def yX2_goOut : MethodName := ⟨RX2, "goOut", "(I)V"⟩
abbrev cX2_change : ByteArray := prog_4_method_8_code
def yX2_change : MethodName := ⟨RX2, "change", "(II)I"⟩
abbrev cX2_tell : ByteArray := prog_4_method_9_code
def yX2_tell : MethodName := ⟨RX2, "tell", "(I)I"⟩
def RX3 : String := "FrontDoor"
def TX3 : u_T := fun k => match k with
  | 0 => ("FrontDoor", "servers", "Ljava/util/ArrayList;", true)
  | 1 => ("FrontDoor", "calls", "Ljava/util/ArrayList;", true)
  | 2 => ("FrontDoor", "live", "Ljava/util/ArrayList;", true)
  | 3 => ("FrontDoor", "line", "Ljava/util/ArrayList;", true)
  | 4 => ("FrontDoor", "refusals", "[I", true)
  | 5 => ("FrontDoor", "tick", "I", false)
  | 6 => ("FrontDoor", "ruleNow", "I", false)
  | 7 => ("FrontDoor", "limitNow", "I", false)
  | 8 => ("FrontDoor", "budgetNow", "I", false)
  | 9 => ("FrontDoor", "hedgeNow", "I", false)
  | 10 => ("FrontDoor", "agains", "I", false)
  | 11 => ("FrontDoor", "seconds", "I", false)
  | _ => ("FrontDoor", "endedSoFar", "I", false)
def tyX3 : Nat → FieldType := fun k => match k with
  | 0 => .object "java/util/ArrayList"
  | 1 => .object "java/util/ArrayList"
  | 2 => .object "java/util/ArrayList"
  | 3 => .object "java/util/ArrayList"
  | 4 => .array .int
  | 5 => .int
  | 6 => .int
  | 7 => .int
  | 8 => .int
  | 9 => .int
  | 10 => .int
  | 11 => .int
  | _ => .int
theorem nmX3 : ∀ a, a < 13 → ∀ b, b < 13 → a ≠ b → (TX3 a).2.1 ≠ (TX3 b).2.1 := by decide +kernel
theorem tyX3_ok : ∀ k, k < 13 → parseFieldDescriptor (TX3 k).2.2.1 = some (tyX3 k) := by decide +kernel
abbrev cX3_init : ByteArray := prog_1_method_1_code
def yX3_init : MethodName := ⟨RX3, "<init>", "()V"⟩
abbrev cX3_server : ByteArray := prog_1_method_2_code
def yX3_server : MethodName := ⟨RX3, "server", "(IIIII)I"⟩
abbrev cX3_set : ByteArray := prog_1_method_3_code
def yX3_set : MethodName := ⟨RX3, "set", "(III)I"⟩
abbrev cX3_drain : ByteArray := prog_1_method_4_code
def yX3_drain : MethodName := ⟨RX3, "drain", "(I)I"⟩
abbrev cX3_back : ByteArray := prog_1_method_5_code
def yX3_back : MethodName := ⟨RX3, "back", "(I)I"⟩
abbrev cX3_rule : ByteArray := prog_1_method_6_code
def yX3_rule : MethodName := ⟨RX3, "rule", "(I)I"⟩
abbrev cX3_limit : ByteArray := prog_1_method_7_code
def yX3_limit : MethodName := ⟨RX3, "limit", "(I)I"⟩
abbrev cX3_budget : ByteArray := prog_1_method_8_code
def yX3_budget : MethodName := ⟨RX3, "budget", "(I)I"⟩
abbrev cX3_hedge : ByteArray := prog_1_method_9_code
def yX3_hedge : MethodName := ⟨RX3, "hedge", "(I)I"⟩
abbrev cX3_call : ByteArray := prog_1_method_10_code
def yX3_call : MethodName := ⟨RX3, "call", "(IIIZ)I"⟩
abbrev cX3_off : ByteArray := prog_1_method_11_code
def yX3_off : MethodName := ⟨RX3, "off", "(I)I"⟩
abbrev cX3_ticks : ByteArray := prog_1_method_12_code
def yX3_ticks : MethodName := ⟨RX3, "ticks", "(I)I"⟩
abbrev cX3_pick : ByteArray := prog_1_method_13_code
def yX3_pick : MethodName := ⟨RX3, "pick", "(I)I"⟩
abbrev cX3_callOf : ByteArray := prog_1_method_14_code
def yX3_callOf : MethodName := ⟨RX3, "callOf", "(II)I"⟩
abbrev cX3_serverOf : ByteArray := prog_1_method_15_code
def yX3_serverOf : MethodName := ⟨RX3, "serverOf", "(II)I"⟩
abbrev cX3_mark : ByteArray := prog_1_method_16_code
def yX3_mark : MethodName := ⟨RX3, "mark", "(II)I"⟩
abbrev cX3_queue : ByteArray := prog_1_method_17_code
def yX3_queue : MethodName := ⟨RX3, "queue", "(I)I"⟩
abbrev cX3_share : ByteArray := prog_1_method_18_code
def yX3_share : MethodName := ⟨RX3, "share", "(I)I"⟩
abbrev cX3_count : ByteArray := prog_1_method_19_code
def yX3_count : MethodName := ⟨RX3, "count", "(I)I"⟩
abbrev cX3_serverAt : ByteArray := prog_1_method_20_code
def yX3_serverAt : MethodName := ⟨RX3, "serverAt", "(I)LFrontDoor$Server;"⟩
abbrev cX3_callAt : ByteArray := prog_1_method_21_code
def yX3_callAt : MethodName := ⟨RX3, "callAt", "(I)LFrontDoor$Call;"⟩
abbrev cX3_refuse : ByteArray := prog_1_method_22_code
def yX3_refuse : MethodName := ⟨RX3, "refuse", "(I)I"⟩
abbrev cX3_faultOf : ByteArray := prog_1_method_23_code
def yX3_faultOf : MethodName := ⟨RX3, "faultOf", "(III)I"⟩
abbrev cX3_leastOf : ByteArray := prog_1_method_24_code
def yX3_leastOf : MethodName := ⟨RX3, "leastOf", "(I)I"⟩
abbrev cX3_greatestOf : ByteArray := prog_1_method_25_code
def yX3_greatestOf : MethodName := ⟨RX3, "greatestOf", "(I)I"⟩
abbrev cX3_callsThatAre : ByteArray := prog_1_method_26_code
def yX3_callsThatAre : MethodName := ⟨RX3, "callsThatAre", "(I)I"⟩
abbrev cX3_askingsSoFar : ByteArray := prog_1_method_27_code
def yX3_askingsSoFar : MethodName := ⟨RX3, "askingsSoFar", "()I"⟩
abbrev cX3_openAskings : ByteArray := prog_1_method_28_code
def yX3_openAskings : MethodName := ⟨RX3, "openAskings", "()I"⟩
abbrev cX3_chosen : ByteArray := prog_1_method_29_code
def yX3_chosen : MethodName := ⟨RX3, "chosen", "(II)LFrontDoor$Server;"⟩
abbrev cX3_byTurn : ByteArray := prog_1_method_30_code
def yX3_byTurn : MethodName := ⟨RX3, "byTurn", "(I)LFrontDoor$Server;"⟩
abbrev cX3_byFewest : ByteArray := prog_1_method_31_code
def yX3_byFewest : MethodName := ⟨RX3, "byFewest", "(II)LFrontDoor$Server;"⟩
abbrev cX3_byRing : ByteArray := prog_1_method_32_code
def yX3_byRing : MethodName := ⟨RX3, "byRing", "(II)LFrontDoor$Server;"⟩
abbrev cX3_settleCredits : ByteArray := prog_1_method_33_code
def yX3_settleCredits : MethodName := ⟨RX3, "settleCredits", "(ILFrontDoor$Server;)V"⟩
abbrev cX3_askByRule : ByteArray := prog_1_method_34_code
def yX3_askByRule : MethodName := ⟨RX3, "askByRule", "(LFrontDoor$Call;)Z"⟩
abbrev cX3_joinLine : ByteArray := prog_1_method_35_code
def yX3_joinLine : MethodName := ⟨RX3, "joinLine", "(LFrontDoor$Call;)V"⟩
abbrev cX3_leaveLine : ByteArray := prog_1_method_36_code
def yX3_leaveLine : MethodName := ⟨RX3, "leaveLine", "(LFrontDoor$Call;)V"⟩
abbrev cX3_end : ByteArray := prog_1_method_37_code
def yX3_end : MethodName := ⟨RX3, "end", "(LFrontDoor$Call;I)V"⟩
abbrev cX3_dropEnded : ByteArray := prog_1_method_38_code
def yX3_dropEnded : MethodName := ⟨RX3, "dropEnded", "()V"⟩
abbrev cX3_passTick : ByteArray := prog_1_method_39_code
def yX3_passTick : MethodName := ⟨RX3, "passTick", "()V"⟩
abbrev cX3_takeWhatIsOver : ByteArray := prog_1_method_40_code
def yX3_takeWhatIsOver : MethodName := ⟨RX3, "takeWhatIsOver", "()V"⟩
abbrev cX3_takeAnswer : ByteArray := prog_1_method_41_code
def yX3_takeAnswer : MethodName := ⟨RX3, "takeAnswer", "(LFrontDoor$Call;LFrontDoor$Asking;)V"⟩
abbrev cX3_budgetHolds : ByteArray := prog_1_method_42_code
def yX3_budgetHolds : MethodName := ⟨RX3, "budgetHolds", "()Z"⟩
abbrev cX3_failureOf : ByteArray := prog_1_method_43_code
def yX3_failureOf : MethodName := ⟨RX3, "failureOf", "(LFrontDoor$Server;)V"⟩
abbrev cX3_oneMoreOutIsTooMany : ByteArray := prog_1_method_44_code
def yX3_oneMoreOutIsTooMany : MethodName := ⟨RX3, "oneMoreOutIsTooMany", "()Z"⟩
abbrev cX3_meetDues : ByteArray := prog_1_method_45_code
def yX3_meetDues : MethodName := ⟨RX3, "meetDues", "()V"⟩
abbrev cX3_failByDue : ByteArray := prog_1_method_46_code
def yX3_failByDue : MethodName := ⟨RX3, "failByDue", "(LFrontDoor$Call;)V"⟩
abbrev cX3_tryThoseOut : ByteArray := prog_1_method_47_code
def yX3_tryThoseOut : MethodName := ⟨RX3, "tryThoseOut", "()V"⟩
abbrev cX3_hedgeSlow : ByteArray := prog_1_method_48_code
def yX3_hedgeSlow : MethodName := ⟨RX3, "hedgeSlow", "()V"⟩
abbrev cX3_askQueued : ByteArray := prog_1_method_49_code
def yX3_askQueued : MethodName := ⟨RX3, "askQueued", "()V"⟩
abbrev cX3_letDrainedGo : ByteArray := prog_1_method_50_code
def yX3_letDrainedGo : MethodName := ⟨RX3, "letDrainedGo", "()V"⟩
def RX4 : String := "FrontDoorModel"
def TX4 : u_T := fun k => match k with
  | 0 => ("FrontDoorModel", "refusals", "[I", true)
  | 1 => ("FrontDoorModel", "tick", "I", false)
  | 2 => ("FrontDoorModel", "servers", "I", false)
  | 3 => ("FrontDoorModel", "calls", "I", false)
  | 4 => ("FrontDoorModel", "rule", "I", false)
  | 5 => ("FrontDoorModel", "limit", "I", false)
  | 6 => ("FrontDoorModel", "budget", "I", false)
  | 7 => ("FrontDoorModel", "hedge", "I", false)
  | 8 => ("FrontDoorModel", "askings", "I", false)
  | 9 => ("FrontDoorModel", "agains", "I", false)
  | 10 => ("FrontDoorModel", "seconds", "I", false)
  | 11 => ("FrontDoorModel", "weight", "[I", true)
  | 12 => ("FrontDoorModel", "zone", "[I", true)
  | 13 => ("FrontDoorModel", "room", "[I", true)
  | 14 => ("FrontDoorModel", "pace", "[I", true)
  | 15 => ("FrontDoorModel", "breaks", "[I", true)
  | 16 => ("FrontDoorModel", "mute", "[I", true)
  | 17 => ("FrontDoorModel", "health", "[I", true)
  | 18 => ("FrontDoorModel", "open", "[I", true)
  | 19 => ("FrontDoorModel", "asked", "[I", true)
  | 20 => ("FrontDoorModel", "answers", "[I", true)
  | 21 => ("FrontDoorModel", "failures", "[I", true)
  | 22 => ("FrontDoorModel", "row", "[I", true)
  | 23 => ("FrontDoorModel", "until", "[I", true)
  | 24 => ("FrontDoorModel", "penalty", "[I", true)
  | 25 => ("FrontDoorModel", "outs", "[I", true)
  | 26 => ("FrontDoorModel", "credit", "[I", true)
  | 27 => ("FrontDoorModel", "key", "[I", true)
  | 28 => ("FrontDoorModel", "grade", "[I", true)
  | 29 => ("FrontDoorModel", "due", "[I", true)
  | 30 => ("FrontDoorModel", "state", "[I", true)
  | 31 => ("FrontDoorModel", "asks", "[I", true)
  | 32 => ("FrontDoorModel", "tried", "[I", true)
  | 33 => ("FrontDoorModel", "came", "[I", true)
  | 34 => ("FrontDoorModel", "ended", "[I", true)
  | 35 => ("FrontDoorModel", "by", "[I", true)
  | 36 => ("FrontDoorModel", "safe", "[Z", true)
  | 37 => ("FrontDoorModel", "at", "[I", true)
  | 38 => ("FrontDoorModel", "since", "[I", true)
  | 39 => ("FrontDoorModel", "over", "[I", true)
  | 40 => ("FrontDoorModel", "fails", "[Z", true)
  | 41 => ("FrontDoorModel", "queue", "[I", true)
  | _ => ("FrontDoorModel", "queued", "I", false)
def tyX4 : Nat → FieldType := fun k => match k with
  | 0 => .array .int
  | 1 => .int
  | 2 => .int
  | 3 => .int
  | 4 => .int
  | 5 => .int
  | 6 => .int
  | 7 => .int
  | 8 => .int
  | 9 => .int
  | 10 => .int
  | 11 => .array .int
  | 12 => .array .int
  | 13 => .array .int
  | 14 => .array .int
  | 15 => .array .int
  | 16 => .array .int
  | 17 => .array .int
  | 18 => .array .int
  | 19 => .array .int
  | 20 => .array .int
  | 21 => .array .int
  | 22 => .array .int
  | 23 => .array .int
  | 24 => .array .int
  | 25 => .array .int
  | 26 => .array .int
  | 27 => .array .int
  | 28 => .array .int
  | 29 => .array .int
  | 30 => .array .int
  | 31 => .array .int
  | 32 => .array .int
  | 33 => .array .int
  | 34 => .array .int
  | 35 => .array .int
  | 36 => .array .boolean
  | 37 => .array .int
  | 38 => .array .int
  | 39 => .array .int
  | 40 => .array .boolean
  | 41 => .array .int
  | _ => .int
theorem nmX4 : ∀ a, a < 43 → ∀ b, b < 43 → a ≠ b → (TX4 a).2.1 ≠ (TX4 b).2.1 := by decide +kernel
theorem tyX4_ok : ∀ k, k < 43 → parseFieldDescriptor (TX4 k).2.2.1 = some (tyX4 k) := by decide +kernel
abbrev cX4_init : ByteArray := prog_6_method_1_code
def yX4_init : MethodName := ⟨RX4, "<init>", "()V"⟩
abbrev cX4_refuse : ByteArray := prog_6_method_2_code
def yX4_refuse : MethodName := ⟨RX4, "refuse", "(I)I"⟩
abbrev cX4_isIn : ByteArray := prog_6_method_3_code
def yX4_isIn : MethodName := ⟨RX4, "isIn", "(II)Z"⟩
abbrev cX4_isServer : ByteArray := prog_6_method_4_code
def yX4_isServer : MethodName := ⟨RX4, "isServer", "(I)Z"⟩
abbrev cX4_isCall : ByteArray := prog_6_method_5_code
def yX4_isCall : MethodName := ⟨RX4, "isCall", "(I)Z"⟩
abbrev cX4_server : ByteArray := prog_6_method_6_code
def yX4_server : MethodName := ⟨RX4, "server", "(IIIII)I"⟩
abbrev cX4_set : ByteArray := prog_6_method_7_code
def yX4_set : MethodName := ⟨RX4, "set", "(III)I"⟩
abbrev cX4_drain : ByteArray := prog_6_method_8_code
def yX4_drain : MethodName := ⟨RX4, "drain", "(I)I"⟩
abbrev cX4_back : ByteArray := prog_6_method_9_code
def yX4_back : MethodName := ⟨RX4, "back", "(I)I"⟩
abbrev cX4_rule : ByteArray := prog_6_method_10_code
def yX4_rule : MethodName := ⟨RX4, "rule", "(I)I"⟩
abbrev cX4_limit : ByteArray := prog_6_method_11_code
def yX4_limit : MethodName := ⟨RX4, "limit", "(I)I"⟩
abbrev cX4_budget : ByteArray := prog_6_method_12_code
def yX4_budget : MethodName := ⟨RX4, "budget", "(I)I"⟩
abbrev cX4_hedge : ByteArray := prog_6_method_13_code
def yX4_hedge : MethodName := ⟨RX4, "hedge", "(I)I"⟩
abbrev cX4_mays : ByteArray := prog_6_method_14_code
def yX4_mays : MethodName := ⟨RX4, "mays", "(I)I"⟩
abbrev cX4_fewest : ByteArray := prog_6_method_15_code
def yX4_fewest : MethodName := ⟨RX4, "fewest", "(I)I"⟩
abbrev cX4_markOf : ByteArray := prog_6_method_16_code
def yX4_markOf : MethodName := ⟨RX4, "markOf", "(II)I"⟩
abbrev cX4_onRing : ByteArray := prog_6_method_17_code
def yX4_onRing : MethodName := ⟨RX4, "onRing", "(II)I"⟩
abbrev cX4_near : ByteArray := prog_6_method_18_code
def yX4_near : MethodName := ⟨RX4, "near", "(II)I"⟩
abbrev cX4_byTurns : ByteArray := prog_6_method_19_code
def yX4_byTurns : MethodName := ⟨RX4, "byTurns", "(IZ)I"⟩
abbrev cX4_picked : ByteArray := prog_6_method_20_code
def yX4_picked : MethodName := ⟨RX4, "picked", "(IIZ)I"⟩
abbrev cX4_ask : ByteArray := prog_6_method_21_code
def yX4_ask : MethodName := ⟨RX4, "ask", "(II)V"⟩
abbrev cX4_asksFor : ByteArray := prog_6_method_22_code
def yX4_asksFor : MethodName := ⟨RX4, "asksFor", "(I)Z"⟩
abbrev cX4_call : ByteArray := prog_6_method_23_code
def yX4_call : MethodName := ⟨RX4, "call", "(IIIZ)I"⟩
abbrev cX4_outsNow : ByteArray := prog_6_method_24_code
def yX4_outsNow : MethodName := ⟨RX4, "outsNow", "(Z)I"⟩
abbrev cX4_failure : ByteArray := prog_6_method_25_code
def yX4_failure : MethodName := ⟨RX4, "failure", "(I)V"⟩
abbrev cX4_answer : ByteArray := prog_6_method_26_code
def yX4_answer : MethodName := ⟨RX4, "answer", "(I)V"⟩
abbrev cX4_takes : ByteArray := prog_6_method_27_code
def yX4_takes : MethodName := ⟨RX4, "takes", "(II)V"⟩
abbrev cX4_ends : ByteArray := prog_6_method_28_code
def yX4_ends : MethodName := ⟨RX4, "ends", "(II)V"⟩
abbrev cX4_off : ByteArray := prog_6_method_29_code
def yX4_off : MethodName := ⟨RX4, "off", "(I)I"⟩
abbrev cX4_comesBack : ByteArray := prog_6_method_30_code
def yX4_comesBack : MethodName := ⟨RX4, "comesBack", "(I)Z"⟩
abbrev cX4_isDue : ByteArray := prog_6_method_31_code
def yX4_isDue : MethodName := ⟨RX4, "isDue", "(I)Z"⟩
abbrev cX4_hedges : ByteArray := prog_6_method_32_code
def yX4_hedges : MethodName := ⟨RX4, "hedges", "(I)V"⟩
abbrev cX4_isAhead : ByteArray := prog_6_method_33_code
def yX4_isAhead : MethodName := ⟨RX4, "isAhead", "(II)Z"⟩
abbrev cX4_line : ByteArray := prog_6_method_34_code
def yX4_line : MethodName := ⟨RX4, "line", "()V"⟩
abbrev cX4_goesOn : ByteArray := prog_6_method_35_code
def yX4_goesOn : MethodName := ⟨RX4, "goesOn", "()I"⟩
abbrev cX4_ticks : ByteArray := prog_6_method_36_code
def yX4_ticks : MethodName := ⟨RX4, "ticks", "(I)I"⟩
abbrev cX4_pick : ByteArray := prog_6_method_37_code
def yX4_pick : MethodName := ⟨RX4, "pick", "(I)I"⟩
abbrev cX4_callOf : ByteArray := prog_6_method_38_code
def yX4_callOf : MethodName := ⟨RX4, "callOf", "(II)I"⟩
abbrev cX4_serverOf : ByteArray := prog_6_method_39_code
def yX4_serverOf : MethodName := ⟨RX4, "serverOf", "(II)I"⟩
abbrev cX4_mark : ByteArray := prog_6_method_40_code
def yX4_mark : MethodName := ⟨RX4, "mark", "(II)I"⟩
abbrev cX4_queue : ByteArray := prog_6_method_41_code
def yX4_queue : MethodName := ⟨RX4, "queue", "(I)I"⟩
abbrev cX4_share : ByteArray := prog_6_method_42_code
def yX4_share : MethodName := ⟨RX4, "share", "(I)I"⟩
abbrev cX4_inState : ByteArray := prog_6_method_43_code
def yX4_inState : MethodName := ⟨RX4, "inState", "(I)I"⟩
abbrev cX4_count : ByteArray := prog_6_method_44_code
def yX4_count : MethodName := ⟨RX4, "count", "(I)I"⟩
def RJx145de : String := "java/io/Serializable"
def TJx145de : u_T := fun k => match k with
  | _ => ("", "", "", false)
def tyJx145de : Nat → FieldType := fun k => match k with
  | _ => .int
theorem nmJx145de : ∀ a, a < 0 → ∀ b, b < 0 → a ≠ b → (TJx145de a).2.1 ≠ (TJx145de b).2.1 := by decide +kernel
theorem tyJx145de_ok : ∀ k, k < 0 → parseFieldDescriptor (TJx145de k).2.2.1 = some (tyJx145de k) := by decide +kernel
def RJx8e188 : String := "java/lang/Cloneable"
def TJx8e188 : u_T := fun k => match k with
  | _ => ("", "", "", false)
def tyJx8e188 : Nat → FieldType := fun k => match k with
  | _ => .int
theorem nmJx8e188 : ∀ a, a < 0 → ∀ b, b < 0 → a ≠ b → (TJx8e188 a).2.1 ≠ (TJx8e188 b).2.1 := by decide +kernel
theorem tyJx8e188_ok : ∀ k, k < 0 → parseFieldDescriptor (TJx8e188 k).2.2.1 = some (tyJx8e188 k) := by decide +kernel
def RJxab1ab : String := "java/lang/Iterable"
def TJxab1ab : u_T := fun k => match k with
  | _ => ("", "", "", false)
def tyJxab1ab : Nat → FieldType := fun k => match k with
  | _ => .int
theorem nmJxab1ab : ∀ a, a < 0 → ∀ b, b < 0 → a ≠ b → (TJxab1ab a).2.1 ≠ (TJxab1ab b).2.1 := by decide +kernel
theorem tyJxab1ab_ok : ∀ k, k < 0 → parseFieldDescriptor (TJxab1ab k).2.2.1 = some (tyJxab1ab k) := by decide +kernel
def RJ9 : String := "java/lang/Math"
def TJ9 : u_T := fun k => match k with
  | _ => ("", "", "", false)
def tyJ9 : Nat → FieldType := fun k => match k with
  | _ => .int
theorem nmJ9 : ∀ a, a < 0 → ∀ b, b < 0 → a ≠ b → (TJ9 a).2.1 ≠ (TJ9 b).2.1 := by decide +kernel
theorem tyJ9_ok : ∀ k, k < 0 → parseFieldDescriptor (TJ9 k).2.2.1 = some (tyJ9 k) := by decide +kernel
abbrev cJ9_max_7cf53 : ByteArray := prog_10_method_65_code
def yJ9_max_7cf53 : MethodName := ⟨RJ9, "max", "(II)I"⟩
abbrev cJ9_min_7cf53 : ByteArray := prog_10_method_69_code
def yJ9_min_7cf53 : MethodName := ⟨RJ9, "min", "(II)I"⟩
def RJ10 : String := "java/lang/System"
def TJ10 : u_T := fun k => match k with
  | _ => ("", "", "", false)
def tyJ10 : Nat → FieldType := fun k => match k with
  | _ => .int
theorem nmJ10 : ∀ a, a < 0 → ∀ b, b < 0 → a ≠ b → (TJ10 a).2.1 ≠ (TJ10 b).2.1 := by decide +kernel
theorem tyJ10_ok : ∀ k, k < 0 → parseFieldDescriptor (TJ10 k).2.2.1 = some (tyJ10 k) := by decide +kernel
def RJxa1e45 : String := "java/util/AbstractCollection"
def TJxa1e45 : u_T := fun k => match k with
  | _ => ("", "", "", false)
def tyJxa1e45 : Nat → FieldType := fun k => match k with
  | _ => .int
theorem nmJxa1e45 : ∀ a, a < 0 → ∀ b, b < 0 → a ≠ b → (TJxa1e45 a).2.1 ≠ (TJxa1e45 b).2.1 := by decide +kernel
theorem tyJxa1e45_ok : ∀ k, k < 0 → parseFieldDescriptor (TJxa1e45 k).2.2.1 = some (tyJxa1e45 k) := by decide +kernel
abbrev cJxa1e45_init_da8c8 : ByteArray := prog_12_method_1_code
def yJxa1e45_init_da8c8 : MethodName := ⟨RJxa1e45, "<init>", "()V"⟩
def RJxc12de : String := "java/util/AbstractList"
def TJxc12de : u_T := fun k => match k with
  | _ => ("", "", "", false)
def tyJxc12de : Nat → FieldType := fun k => match k with
  | _ => .int
theorem nmJxc12de : ∀ a, a < 0 → ∀ b, b < 0 → a ≠ b → (TJxc12de a).2.1 ≠ (TJxc12de b).2.1 := by decide +kernel
theorem tyJxc12de_ok : ∀ k, k < 0 → parseFieldDescriptor (TJxc12de k).2.2.1 = some (tyJxc12de k) := by decide +kernel
abbrev cJxc12de_init_da8c8 : ByteArray := prog_13_method_1_code
def yJxc12de_init_da8c8 : MethodName := ⟨RJxc12de, "<init>", "()V"⟩
def RJx4a65c : String := "java/util/ArrayList"
def TJx4a65c : u_T := fun k => match k with
  | 0 => ("java/util/AbstractList", "modCount", "I", false)
  | 1 => ("java/util/ArrayList", "elementData", "[Ljava/lang/Object;", false)
  | _ => ("java/util/ArrayList", "size", "I", false)
def tyJx4a65c : Nat → FieldType := fun k => match k with
  | 0 => .int
  | 1 => .array (.object "java/lang/Object")
  | _ => .int
theorem nmJx4a65c : ∀ a, a < 3 → ∀ b, b < 3 → a ≠ b → (TJx4a65c a).2.1 ≠ (TJx4a65c b).2.1 := by decide +kernel
theorem tyJx4a65c_ok : ∀ k, k < 3 → parseFieldDescriptor (TJx4a65c k).2.2.1 = some (tyJx4a65c k) := by decide +kernel
abbrev cJx4a65c_init_da8c8 : ByteArray := prog_14_method_2_code
def yJx4a65c_init_da8c8 : MethodName := ⟨RJx4a65c, "<init>", "()V"⟩
abbrev cJx4a65c_grow_92f84 : ByteArray := prog_14_method_6_code
def yJx4a65c_grow_92f84 : MethodName := ⟨RJx4a65c, "grow", "(I)[Ljava/lang/Object;"⟩
abbrev cJx4a65c_grow_d5877 : ByteArray := prog_14_method_7_code
def yJx4a65c_grow_d5877 : MethodName := ⟨RJx4a65c, "grow", "()[Ljava/lang/Object;"⟩
abbrev cJx4a65c_size_8abf5 : ByteArray := prog_14_method_8_code
def yJx4a65c_size_8abf5 : MethodName := ⟨RJx4a65c, "size", "()I"⟩
abbrev cJx4a65c_elementData_915e3 : ByteArray := prog_14_method_18_code
def yJx4a65c_elementData_915e3 : MethodName := ⟨RJx4a65c, "elementData", "(I)Ljava/lang/Object;"⟩
abbrev cJx4a65c_get_915e3 : ByteArray := prog_14_method_20_code
def yJx4a65c_get_915e3 : MethodName := ⟨RJx4a65c, "get", "(I)Ljava/lang/Object;"⟩
abbrev cJx4a65c_add_72be8 : ByteArray := prog_14_method_24_code
def yJx4a65c_add_72be8 : MethodName := ⟨RJx4a65c, "add", "(Ljava/lang/Object;[Ljava/lang/Object;I)V"⟩
abbrev cJx4a65c_add_9ea2d : ByteArray := prog_14_method_25_code
def yJx4a65c_add_9ea2d : MethodName := ⟨RJx4a65c, "add", "(Ljava/lang/Object;)Z"⟩
abbrev cJx4a65c_add_7a177 : ByteArray := prog_14_method_26_code
def yJx4a65c_add_7a177 : MethodName := ⟨RJx4a65c, "add", "(ILjava/lang/Object;)V"⟩
abbrev cJx4a65c_remove_915e3 : ByteArray := prog_14_method_29_code
def yJx4a65c_remove_915e3 : MethodName := ⟨RJx4a65c, "remove", "(I)Ljava/lang/Object;"⟩
abbrev cJx4a65c_fastRemove_b59b0 : ByteArray := prog_14_method_39_code
def yJx4a65c_fastRemove_b59b0 : MethodName := ⟨RJx4a65c, "fastRemove", "([Ljava/lang/Object;I)V"⟩
abbrev cJx4a65c_rangeCheckForAdd_d00df : ByteArray := prog_14_method_45_code
def yJx4a65c_rangeCheckForAdd_d00df : MethodName := ⟨RJx4a65c, "rangeCheckForAdd", "(I)V"⟩
def RJ7 : String := "java/util/Arrays"
def TJ7 : u_T := fun k => match k with
  | _ => ("", "", "", false)
def tyJ7 : Nat → FieldType := fun k => match k with
  | _ => .int
theorem nmJ7 : ∀ a, a < 0 → ∀ b, b < 0 → a ≠ b → (TJ7 a).2.1 ≠ (TJ7 b).2.1 := by decide +kernel
theorem tyJ7_ok : ∀ k, k < 0 → parseFieldDescriptor (TJ7 k).2.2.1 = some (tyJ7 k) := by decide +kernel
abbrev cJ7_copyOf_1904c : ByteArray := prog_15_method_119_code
def yJ7_copyOf_1904c : MethodName := ⟨RJ7, "copyOf", "([Ljava/lang/Object;I)[Ljava/lang/Object;"⟩
abbrev cJ7_copyOf_6403c : ByteArray := prog_15_method_120_code
def yJ7_copyOf_6403c : MethodName := ⟨RJ7, "copyOf", "([Ljava/lang/Object;ILjava/lang/Class;)[Ljava/lang/Object;"⟩
def RJx5ef63 : String := "java/util/Collection"
def TJx5ef63 : u_T := fun k => match k with
  | _ => ("", "", "", false)
def tyJx5ef63 : Nat → FieldType := fun k => match k with
  | _ => .int
theorem nmJx5ef63 : ∀ a, a < 0 → ∀ b, b < 0 → a ≠ b → (TJx5ef63 a).2.1 ≠ (TJx5ef63 b).2.1 := by decide +kernel
theorem tyJx5ef63_ok : ∀ k, k < 0 → parseFieldDescriptor (TJx5ef63 k).2.2.1 = some (tyJx5ef63 k) := by decide +kernel
def RJxbd725 : String := "java/util/List"
def TJxbd725 : u_T := fun k => match k with
  | _ => ("", "", "", false)
def tyJxbd725 : Nat → FieldType := fun k => match k with
  | _ => .int
theorem nmJxbd725 : ∀ a, a < 0 → ∀ b, b < 0 → a ≠ b → (TJxbd725 a).2.1 ≠ (TJxbd725 b).2.1 := by decide +kernel
theorem tyJxbd725_ok : ∀ k, k < 0 → parseFieldDescriptor (TJxbd725 k).2.2.1 = some (tyJxbd725 k) := by decide +kernel
def RJ15 : String := "java/util/Objects"
def TJ15 : u_T := fun k => match k with
  | _ => ("", "", "", false)
def tyJ15 : Nat → FieldType := fun k => match k with
  | _ => .int
theorem nmJ15 : ∀ a, a < 0 → ∀ b, b < 0 → a ≠ b → (TJ15 a).2.1 ≠ (TJ15 b).2.1 := by decide +kernel
theorem tyJ15_ok : ∀ k, k < 0 → parseFieldDescriptor (TJ15 k).2.2.1 = some (tyJ15 k) := by decide +kernel
abbrev cJ15_checkIndex_7cf53 : ByteArray := prog_18_method_17_code
def yJ15_checkIndex_7cf53 : MethodName := ⟨RJ15, "checkIndex", "(II)I"⟩
def RJxf0a74 : String := "java/util/RandomAccess"
def TJxf0a74 : u_T := fun k => match k with
  | _ => ("", "", "", false)
def tyJxf0a74 : Nat → FieldType := fun k => match k with
  | _ => .int
theorem nmJxf0a74 : ∀ a, a < 0 → ∀ b, b < 0 → a ≠ b → (TJxf0a74 a).2.1 ≠ (TJxf0a74 b).2.1 := by decide +kernel
theorem tyJxf0a74_ok : ∀ k, k < 0 → parseFieldDescriptor (TJxf0a74 k).2.2.1 = some (tyJxf0a74 k) := by decide +kernel
def RJxa66e6 : String := "java/util/SequencedCollection"
def TJxa66e6 : u_T := fun k => match k with
  | _ => ("", "", "", false)
def tyJxa66e6 : Nat → FieldType := fun k => match k with
  | _ => .int
theorem nmJxa66e6 : ∀ a, a < 0 → ∀ b, b < 0 → a ≠ b → (TJxa66e6 a).2.1 ≠ (TJxa66e6 b).2.1 := by decide +kernel
theorem tyJxa66e6_ok : ∀ k, k < 0 → parseFieldDescriptor (TJxa66e6 k).2.2.1 = some (tyJxa66e6 k) := by decide +kernel
def RJ8 : String := "jdk/internal/util/ArraysSupport"
def TJ8 : u_T := fun k => match k with
  | _ => ("", "", "", false)
def tyJ8 : Nat → FieldType := fun k => match k with
  | _ => .int
theorem nmJ8 : ∀ a, a < 0 → ∀ b, b < 0 → a ≠ b → (TJ8 a).2.1 ≠ (TJ8 b).2.1 := by decide +kernel
theorem tyJ8_ok : ∀ k, k < 0 → parseFieldDescriptor (TJ8 k).2.2.1 = some (tyJ8 k) := by decide +kernel
abbrev cJ8_newLength_cabcc : ByteArray := prog_21_method_27_code
def yJ8_newLength_cabcc : MethodName := ⟨RJ8, "newLength", "(III)I"⟩
abbrev cJ8_hugeLength_7cf53 : ByteArray := prog_21_method_28_code
def yJ8_hugeLength_7cf53 : MethodName := ⟨RJ8, "hugeLength", "(II)I"⟩
def RJ3 : String := "jdk/internal/util/Preconditions"
def TJ3 : u_T := fun k => match k with
  | _ => ("", "", "", false)
def tyJ3 : Nat → FieldType := fun k => match k with
  | _ => .int
theorem nmJ3 : ∀ a, a < 0 → ∀ b, b < 0 → a ≠ b → (TJ3 a).2.1 ≠ (TJ3 b).2.1 := by decide +kernel
theorem tyJ3_ok : ∀ k, k < 0 → parseFieldDescriptor (TJ3 k).2.2.1 = some (tyJ3 k) := by decide +kernel
abbrev cJ3_checkIndex_8e157 : ByteArray := prog_22_method_11_code
def yJ3_checkIndex_8e157 : MethodName := ⟨RJ3, "checkIndex", "(IILjava/util/function/BiFunction;)I"⟩
def RL : String := "FrontDoorLaw"
abbrev cL_law : ByteArray := code
def yL_law : MethodName := ⟨RL, "law", "([I)Z"⟩
abbrev vwCl : List vw_C := [(RJx4a65c, TJx4a65c, 3), (RX0, TX0, 4), (RX1, TX1, 12), (RX2, TX2, 17), (RX3, TX3, 13), (RX4, TX4, 43)]
