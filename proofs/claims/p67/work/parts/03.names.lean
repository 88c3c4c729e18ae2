def RX0 : String := "GardenBureau$Beds"
def TX0 : u_T := fun k => match k with
  | 0 => ("GardenBureau$Beds", "count", "I", false)
  | 1 => ("GardenBureau$Beds", "scent", "[I", true)
  | 2 => ("GardenBureau$Beds", "places", "[I", true)
  | 3 => ("GardenBureau$Beds", "firstDay", "[I", true)
  | 4 => ("GardenBureau$Beds", "lastDay", "[I", true)
  | 5 => ("GardenBureau$Beds", "blooms", "[I", true)
  | 6 => ("GardenBureau$Beds", "visits", "[I", true)
  | _ => ("GardenBureau$Beds", "visitsInTick", "[I", true)
def tyX0 : Nat → FieldType := fun k => match k with
  | 0 => .int
  | 1 => .array .int
  | 2 => .array .int
  | 3 => .array .int
  | 4 => .array .int
  | 5 => .array .int
  | 6 => .array .int
  | _ => .array .int
abbrev wsX00 : List Cond := u_ws RX0 TX0 8
theorem nmX0 : ∀ a, a < 8 → ∀ b, b < 8 → a ≠ b → (TX0 a).2.1 ≠ (TX0 b).2.1 := by decide +kernel
theorem tyX0_ok : ∀ k, k < 8 → parseFieldDescriptor (TX0 k).2.2.1 = some (tyX0 k) := by decide +kernel
abbrev cX0_init : ByteArray := prog_2_method_1_code
def yX0_init : MethodName := ⟨RX0, "<init>", "()V"⟩
abbrev cX0_copyFrom : ByteArray := prog_2_method_2_code
def yX0_copyFrom : MethodName := ⟨RX0, "copyFrom", "(LGardenBureau$Beds;)V"⟩
abbrev cX0_has : ByteArray := prog_2_method_3_code
def yX0_has : MethodName := ⟨RX0, "has", "(I)Z"⟩
abbrev cX0_hasRoom : ByteArray := prog_2_method_4_code
def yX0_hasRoom : MethodName := ⟨RX0, "hasRoom", "()Z"⟩
abbrev cX0_add : ByteArray := prog_2_method_5_code
def yX0_add : MethodName := ⟨RX0, "add", "(IIII)I"⟩
abbrev cX0_hasSeasonOn : ByteArray := prog_2_method_6_code
def yX0_hasSeasonOn : MethodName := ⟨RX0, "hasSeasonOn", "(II)Z"⟩
abbrev cX0_freePlaces : ByteArray := prog_2_method_7_code
def yX0_freePlaces : MethodName := ⟨RX0, "freePlaces", "(I)I"⟩
abbrev cX0_countVisit : ByteArray := prog_2_method_8_code
def yX0_countVisit : MethodName := ⟨RX0, "countVisit", "(I)V"⟩
abbrev cX0_beginTick : ByteArray := prog_2_method_9_code
def yX0_beginTick : MethodName := ⟨RX0, "beginTick", "()V"⟩
abbrev cX0_beginDay : ByteArray := prog_2_method_10_code
def yX0_beginDay : MethodName := ⟨RX0, "beginDay", "(I)V"⟩
abbrev cX0_sumOfVisits : ByteArray := prog_2_method_11_code
def yX0_sumOfVisits : MethodName := ⟨RX0, "sumOfVisits", "()I"⟩
abbrev cX0_countWrong : ByteArray := prog_2_method_12_code
def yX0_countWrong : MethodName := ⟨RX0, "countWrong", "()I"⟩
def RX1 : String := "GardenBureau$Books"
def TX1 : u_T := fun k => match k with
  | 0 => ("GardenBureau$Books", "paid", "I", false)
  | 1 => ("GardenBureau$Books", "refunded", "I", false)
  | 2 => ("GardenBureau$Books", "fines", "I", false)
  | 3 => ("GardenBureau$Books", "finesPaid", "I", false)
  | 4 => ("GardenBureau$Books", "plucked", "I", false)
  | _ => ("GardenBureau$Books", "alarms", "I", false)
def tyX1 : Nat → FieldType := fun k => match k with
  | 0 => .int
  | 1 => .int
  | 2 => .int
  | 3 => .int
  | 4 => .int
  | _ => .int
abbrev wsX10 : List Cond := u_ws RX1 TX1 6
theorem nmX1 : ∀ a, a < 6 → ∀ b, b < 6 → a ≠ b → (TX1 a).2.1 ≠ (TX1 b).2.1 := by decide +kernel
theorem tyX1_ok : ∀ k, k < 6 → parseFieldDescriptor (TX1 k).2.2.1 = some (tyX1 k) := by decide +kernel
abbrev cX1_init : ByteArray := prog_3_method_1_code
def yX1_init : MethodName := ⟨RX1, "<init>", "()V"⟩
abbrev cX1_reset : ByteArray := prog_3_method_2_code
def yX1_reset : MethodName := ⟨RX1, "reset", "()V"⟩
abbrev cX1_copyFrom : ByteArray := prog_3_method_3_code
def yX1_copyFrom : MethodName := ⟨RX1, "copyFrom", "(LGardenBureau$Books;)V"⟩
def RX2 : String := "GardenBureau$Cards"
def TX2 : u_T := fun k => match k with
  | 0 => ("GardenBureau$Cards", "count", "I", false)
  | 1 => ("GardenBureau$Cards", "pass", "[I", true)
  | _ => ("GardenBureau$Cards", "blocked", "[Z", true)
def tyX2 : Nat → FieldType := fun k => match k with
  | 0 => .int
  | 1 => .array .int
  | _ => .array .boolean
abbrev wsX20 : List Cond := u_ws RX2 TX2 3
theorem nmX2 : ∀ a, a < 3 → ∀ b, b < 3 → a ≠ b → (TX2 a).2.1 ≠ (TX2 b).2.1 := by decide +kernel
theorem tyX2_ok : ∀ k, k < 3 → parseFieldDescriptor (TX2 k).2.2.1 = some (tyX2 k) := by decide +kernel
abbrev cX2_init : ByteArray := prog_4_method_1_code
def yX2_init : MethodName := ⟨RX2, "<init>", "()V"⟩
abbrev cX2_copyFrom : ByteArray := prog_4_method_2_code
def yX2_copyFrom : MethodName := ⟨RX2, "copyFrom", "(LGardenBureau$Cards;)V"⟩
abbrev cX2_has : ByteArray := prog_4_method_3_code
def yX2_has : MethodName := ⟨RX2, "has", "(I)Z"⟩
abbrev cX2_hasRoom : ByteArray := prog_4_method_4_code
def yX2_hasRoom : MethodName := ⟨RX2, "hasRoom", "()Z"⟩
abbrev cX2_add : ByteArray := prog_4_method_5_code
def yX2_add : MethodName := ⟨RX2, "add", "(I)I"⟩
abbrev cX2_isOpenCardOf : ByteArray := prog_4_method_6_code
def yX2_isOpenCardOf : MethodName := ⟨RX2, "isOpenCardOf", "(II)Z"⟩
def RX3 : String := "GardenBureau$Clock"
def TX3 : u_T := fun k => match k with
  | 0 => ("GardenBureau$Clock", "time", "I", false)
  | 1 => ("GardenBureau$Clock", "firstPeacockTick", "I", false)
  | _ => ("GardenBureau$Clock", "lastPeacockTick", "I", false)
def tyX3 : Nat → FieldType := fun k => match k with
  | 0 => .int
  | 1 => .int
  | _ => .int
abbrev wsX30 : List Cond := u_ws RX3 TX3 3
theorem nmX3 : ∀ a, a < 3 → ∀ b, b < 3 → a ≠ b → (TX3 a).2.1 ≠ (TX3 b).2.1 := by decide +kernel
theorem tyX3_ok : ∀ k, k < 3 → parseFieldDescriptor (TX3 k).2.2.1 = some (tyX3 k) := by decide +kernel
abbrev cX3_init : ByteArray := prog_5_method_1_code
def yX3_init : MethodName := ⟨RX3, "<init>", "()V"⟩
abbrev cX3_reset : ByteArray := prog_5_method_2_code
def yX3_reset : MethodName := ⟨RX3, "reset", "()V"⟩
abbrev cX3_copyFrom : ByteArray := prog_5_method_3_code
def yX3_copyFrom : MethodName := ⟨RX3, "copyFrom", "(LGardenBureau$Clock;)V"⟩
abbrev cX3_letPeacocksWalk : ByteArray := prog_5_method_4_code
def yX3_letPeacocksWalk : MethodName := ⟨RX3, "letPeacocksWalk", "(II)V"⟩
abbrev cX3_today : ByteArray := prog_5_method_5_code
def yX3_today : MethodName := ⟨RX3, "today", "()I"⟩
abbrev cX3_canGoOn : ByteArray := prog_5_method_6_code
def yX3_canGoOn : MethodName := ⟨RX3, "canGoOn", "(I)Z"⟩
abbrev cX3_tickOfDay : ByteArray := prog_5_method_7_code
def yX3_tickOfDay : MethodName := ⟨RX3, "tickOfDay", "()I"⟩
abbrev cX3_isOpenIn : ByteArray := prog_5_method_8_code
def yX3_isOpenIn : MethodName := ⟨RX3, "isOpenIn", "(I)Z"⟩
abbrev cX3_openTicksOfDay : ByteArray := prog_5_method_9_code
def yX3_openTicksOfDay : MethodName := ⟨RX3, "openTicksOfDay", "()I"⟩
abbrev cX3_waitForOpening : ByteArray := prog_5_method_10_code
def yX3_waitForOpening : MethodName := ⟨RX3, "waitForOpening", "()I"⟩
def RX4 : String := "GardenBureau$Garden"
def TX4 : u_T := fun k => match k with
  | 0 => ("GardenBureau$Garden", "clock", "LGardenBureau$Clock;", true)
  | 1 => ("GardenBureau$Garden", "tariff", "LGardenBureau$Tariff;", true)
  | 2 => ("GardenBureau$Garden", "beds", "LGardenBureau$Beds;", true)
  | 3 => ("GardenBureau$Garden", "passes", "LGardenBureau$Passes;", true)
  | 4 => ("GardenBureau$Garden", "cards", "LGardenBureau$Cards;", true)
  | 5 => ("GardenBureau$Garden", "books", "LGardenBureau$Books;", true)
  | _ => ("GardenBureau$Garden", "pause", "I", false)
def tyX4 : Nat → FieldType := fun k => match k with
  | 0 => .object "GardenBureau$Clock"
  | 1 => .object "GardenBureau$Tariff"
  | 2 => .object "GardenBureau$Beds"
  | 3 => .object "GardenBureau$Passes"
  | 4 => .object "GardenBureau$Cards"
  | 5 => .object "GardenBureau$Books"
  | _ => .int
abbrev wsX40 : List Cond := u_ws RX4 TX4 7
theorem nmX4 : ∀ a, a < 7 → ∀ b, b < 7 → a ≠ b → (TX4 a).2.1 ≠ (TX4 b).2.1 := by decide +kernel
theorem tyX4_ok : ∀ k, k < 7 → parseFieldDescriptor (TX4 k).2.2.1 = some (tyX4 k) := by decide +kernel
abbrev cX4_init : ByteArray := prog_6_method_1_code
def yX4_init : MethodName := ⟨RX4, "<init>", "()V"⟩
abbrev cX4_reset : ByteArray := prog_6_method_2_code
def yX4_reset : MethodName := ⟨RX4, "reset", "()V"⟩
abbrev cX4_copyFrom : ByteArray := prog_6_method_3_code
def yX4_copyFrom : MethodName := ⟨RX4, "copyFrom", "(LGardenBureau$Garden;)V"⟩
abbrev cX4_letTicksPass : ByteArray := prog_6_method_4_code
def yX4_letTicksPass : MethodName := ⟨RX4, "letTicksPass", "(I)V"⟩
abbrev cX4_canSellPass : ByteArray := prog_6_method_5_code
def yX4_canSellPass : MethodName := ⟨RX4, "canSellPass", "()Z"⟩
abbrev cX4_sellPass : ByteArray := prog_6_method_6_code
def yX4_sellPass : MethodName := ⟨RX4, "sellPass", "(IIII)I"⟩
abbrev cX4_canChangePass : ByteArray := prog_6_method_7_code
def yX4_canChangePass : MethodName := ⟨RX4, "canChangePass", "(I)Z"⟩
abbrev cX4_payNewPrice : ByteArray := prog_6_method_8_code
def yX4_payNewPrice : MethodName := ⟨RX4, "payNewPrice", "(I)I"⟩
abbrev cX4_blockCardOf : ByteArray := prog_6_method_9_code
def yX4_blockCardOf : MethodName := ⟨RX4, "blockCardOf", "(I)I"⟩
abbrev cX4_canReplaceCard : ByteArray := prog_6_method_10_code
def yX4_canReplaceCard : MethodName := ⟨RX4, "canReplaceCard", "(I)Z"⟩
abbrev cX4_issueNewCard : ByteArray := prog_6_method_11_code
def yX4_issueNewCard : MethodName := ⟨RX4, "issueNewCard", "(I)I"⟩
abbrev cX4_refundNow : ByteArray := prog_6_method_12_code
def yX4_refundNow : MethodName := ⟨RX4, "refundNow", "(I)I"⟩
abbrev cX4_takeBackPass : ByteArray := prog_6_method_13_code
def yX4_takeBackPass : MethodName := ⟨RX4, "takeBackPass", "(I)I"⟩
abbrev cX4_payFinesOf : ByteArray := prog_6_method_14_code
def yX4_payFinesOf : MethodName := ⟨RX4, "payFinesOf", "(II)V"⟩
abbrev cX4_waitForNextVisit : ByteArray := prog_6_method_15_code
def yX4_waitForNextVisit : MethodName := ⟨RX4, "waitForNextVisit", "(I)I"⟩
abbrev cX4_reasonOfRefusal : ByteArray := prog_6_method_16_code
def yX4_reasonOfRefusal : MethodName := ⟨RX4, "reasonOfRefusal", "(II)I"⟩
abbrev cX4_showCard : ByteArray := prog_6_method_18_code
def yX4_showCard : MethodName := ⟨RX4, "showCard", "(II)I"⟩
abbrev cX4_canPluck : ByteArray := prog_6_method_19_code
def yX4_canPluck : MethodName := ⟨RX4, "canPluck", "(II)Z"⟩
abbrev cX4_pluckBlooms : ByteArray := prog_6_method_20_code
def yX4_pluckBlooms : MethodName := ⟨RX4, "pluckBlooms", "(II)I"⟩
abbrev cX4_fineToday : ByteArray := prog_6_method_21_code
def yX4_fineToday : MethodName := ⟨RX4, "fineToday", "(II)I"⟩
abbrev cX4_countWrongPasses : ByteArray := prog_6_method_22_code
def yX4_countWrongPasses : MethodName := ⟨RX4, "countWrongPasses", "()I"⟩
abbrev cX4_countWrongSums : ByteArray := prog_6_method_23_code
def yX4_countWrongSums : MethodName := ⟨RX4, "countWrongSums", "()I"⟩
def RX5 : String := "GardenBureau$History"
def TX5 : u_T := fun k => match k with
  | 0 => ("GardenBureau$History", "before", "[LGardenBureau$Garden;", true)
  | 1 => ("GardenBureau$History", "count", "I", false)
  | _ => ("GardenBureau$History", "next", "I", false)
def tyX5 : Nat → FieldType := fun k => match k with
  | 0 => .array (.object "GardenBureau$Garden")
  | 1 => .int
  | _ => .int
abbrev wsX50 : List Cond := u_ws RX5 TX5 3
theorem nmX5 : ∀ a, a < 3 → ∀ b, b < 3 → a ≠ b → (TX5 a).2.1 ≠ (TX5 b).2.1 := by decide +kernel
theorem tyX5_ok : ∀ k, k < 3 → parseFieldDescriptor (TX5 k).2.2.1 = some (tyX5 k) := by decide +kernel
abbrev cX5_init : ByteArray := prog_7_method_1_code
def yX5_init : MethodName := ⟨RX5, "<init>", "()V"⟩
abbrev cX5_remember : ByteArray := prog_7_method_2_code
def yX5_remember : MethodName := ⟨RX5, "remember", "(LGardenBureau$Garden;)V"⟩
abbrev cX5_takeBack : ByteArray := prog_7_method_3_code
def yX5_takeBack : MethodName := ⟨RX5, "takeBack", "(LGardenBureau$Garden;)V"⟩
def RX6 : String := "GardenBureau$Input"
def TX6 : u_T := fun k => match k with
  | 0 => ("GardenBureau$Input", "bytes", "[B", true)
  | 1 => ("GardenBureau$Input", "length", "I", false)
  | 2 => ("GardenBureau$Input", "kind", "I", false)
  | 3 => ("GardenBureau$Input", "start", "I", false)
  | _ => ("GardenBureau$Input", "end", "I", false)
def tyX6 : Nat → FieldType := fun k => match k with
  | 0 => .array .byte
  | 1 => .int
  | 2 => .int
  | 3 => .int
  | _ => .int
abbrev wsX60 : List Cond := u_ws RX6 TX6 5
theorem nmX6 : ∀ a, a < 5 → ∀ b, b < 5 → a ≠ b → (TX6 a).2.1 ≠ (TX6 b).2.1 := by decide +kernel
theorem tyX6_ok : ∀ k, k < 5 → parseFieldDescriptor (TX6 k).2.2.1 = some (tyX6 k) := by decide +kernel
abbrev cX6_init : ByteArray := prog_8_method_1_code
def yX6_init : MethodName := ⟨RX6, "<init>", "()V"⟩
abbrev cX6_fill : ByteArray := prog_8_method_2_code
def yX6_fill : MethodName := ⟨RX6, "fill", "(Ljava/lang/String;)V"⟩
abbrev cX6_addWord : ByteArray := prog_8_method_3_code
def yX6_addWord : MethodName := ⟨RX6, "addWord", "(I)V"⟩
abbrev cX6_readFirst : ByteArray := prog_8_method_4_code
def yX6_readFirst : MethodName := ⟨RX6, "readFirst", "()V"⟩
abbrev cX6_readNext : ByteArray := prog_8_method_5_code
def yX6_readNext : MethodName := ⟨RX6, "readNext", "()V"⟩
abbrev cX6_kindOf : ByteArray := prog_8_method_6_code
def yX6_kindOf : MethodName := ⟨RX6, "kindOf", "(B)I"⟩
abbrev cX6_isWord : ByteArray := prog_8_method_7_code
def yX6_isWord : MethodName := ⟨RX6, "isWord", "(Ljava/lang/String;)Z"⟩
abbrev cX6_valueOfNumber : ByteArray := prog_8_method_8_code
def yX6_valueOfNumber : MethodName := ⟨RX6, "valueOfNumber", "()I"⟩
def RX7 : String := "GardenBureau$Passes"
def TX7 : u_T := fun k => match k with
  | 0 => ("GardenBureau$Passes", "count", "I", false)
  | 1 => ("GardenBureau$Passes", "scents", "[I", true)
  | 2 => ("GardenBureau$Passes", "firstDay", "[I", true)
  | 3 => ("GardenBureau$Passes", "days", "[I", true)
  | 4 => ("GardenBureau$Passes", "kind", "[I", true)
  | 5 => ("GardenBureau$Passes", "price", "[I", true)
  | 6 => ("GardenBureau$Passes", "card", "[I", true)
  | 7 => ("GardenBureau$Passes", "returned", "[Z", true)
  | 8 => ("GardenBureau$Passes", "usedDays", "[I", true)
  | 9 => ("GardenBureau$Passes", "visits", "[I", true)
  | 10 => ("GardenBureau$Passes", "latestTime", "[I", true)
  | 11 => ("GardenBureau$Passes", "latestBed", "[I", true)
  | _ => ("GardenBureau$Passes", "owed", "[I", true)
def tyX7 : Nat → FieldType := fun k => match k with
  | 0 => .int
  | 1 => .array .int
  | 2 => .array .int
  | 3 => .array .int
  | 4 => .array .int
  | 5 => .array .int
  | 6 => .array .int
  | 7 => .array .boolean
  | 8 => .array .int
  | 9 => .array .int
  | 10 => .array .int
  | 11 => .array .int
  | _ => .array .int
abbrev wsX70 : List Cond := u_ws RX7 TX7 13
theorem nmX7 : ∀ a, a < 13 → ∀ b, b < 13 → a ≠ b → (TX7 a).2.1 ≠ (TX7 b).2.1 := by decide +kernel
theorem tyX7_ok : ∀ k, k < 13 → parseFieldDescriptor (TX7 k).2.2.1 = some (tyX7 k) := by decide +kernel
abbrev cX7_init : ByteArray := prog_9_method_1_code
def yX7_init : MethodName := ⟨RX7, "<init>", "()V"⟩
abbrev cX7_copyFrom : ByteArray := prog_9_method_2_code
def yX7_copyFrom : MethodName := ⟨RX7, "copyFrom", "(LGardenBureau$Passes;)V"⟩
abbrev cX7_has : ByteArray := prog_9_method_3_code
def yX7_has : MethodName := ⟨RX7, "has", "(I)Z"⟩
abbrev cX7_hasRoom : ByteArray := prog_9_method_4_code
def yX7_hasRoom : MethodName := ⟨RX7, "hasRoom", "()Z"⟩
abbrev cX7_add : ByteArray := prog_9_method_5_code
def yX7_add : MethodName := ⟨RX7, "add", "(IIIII)I"⟩
abbrev cX7_hasCard : ByteArray := prog_9_method_6_code
def yX7_hasCard : MethodName := ⟨RX7, "hasCard", "(I)Z"⟩
abbrev cX7_hasScent : ByteArray := prog_9_method_7_code
def yX7_hasScent : MethodName := ⟨RX7, "hasScent", "(II)Z"⟩
abbrev cX7_finalDay : ByteArray := prog_9_method_8_code
def yX7_finalDay : MethodName := ⟨RX7, "finalDay", "(I)I"⟩
abbrev cX7_isValidOn : ByteArray := prog_9_method_9_code
def yX7_isValidOn : MethodName := ⟨RX7, "isValidOn", "(II)Z"⟩
abbrev cX7_countUsedDays : ByteArray := prog_9_method_11_code
def yX7_countUsedDays : MethodName := ⟨RX7, "countUsedDays", "(I)I"⟩
abbrev cX7_countDaysLeft : ByteArray := prog_9_method_12_code
def yX7_countDaysLeft : MethodName := ⟨RX7, "countDaysLeft", "(II)I"⟩
abbrev cX7_countVisit : ByteArray := prog_9_method_13_code
def yX7_countVisit : MethodName := ⟨RX7, "countVisit", "(IIII)V"⟩
abbrev cX7_sumOfVisits : ByteArray := prog_9_method_15_code
def yX7_sumOfVisits : MethodName := ⟨RX7, "sumOfVisits", "()I"⟩
abbrev cX7_sumOfOwed : ByteArray := prog_9_method_16_code
def yX7_sumOfOwed : MethodName := ⟨RX7, "sumOfOwed", "()I"⟩
def RX8 : String := "GardenBureau$Report"
def TX8 : u_T := fun k => match k with
  | 0 => ("GardenBureau$Report", "bytes", "[B", true)
  | _ => ("GardenBureau$Report", "length", "I", false)
def tyX8 : Nat → FieldType := fun k => match k with
  | 0 => .array .byte
  | _ => .int
abbrev wsX80 : List Cond := u_ws RX8 TX8 2
theorem nmX8 : ∀ a, a < 2 → ∀ b, b < 2 → a ≠ b → (TX8 a).2.1 ≠ (TX8 b).2.1 := by decide +kernel
theorem tyX8_ok : ∀ k, k < 2 → parseFieldDescriptor (TX8 k).2.2.1 = some (tyX8 k) := by decide +kernel
abbrev cX8_init : ByteArray := prog_10_method_1_code
def yX8_init : MethodName := ⟨RX8, "<init>", "()V"⟩
def RX9 : String := "GardenBureau$Script"
def TX9 : u_T := fun k => match k with
  | 0 => ("GardenBureau$Script", "garden", "LGardenBureau$Garden;", true)
  | 1 => ("GardenBureau$Script", "input", "LGardenBureau$Input;", true)
  | 2 => ("GardenBureau$Script", "errorKind", "I", false)
  | _ => ("GardenBureau$Script", "errorOffset", "I", false)
def tyX9 : Nat → FieldType := fun k => match k with
  | 0 => .object "GardenBureau$Garden"
  | 1 => .object "GardenBureau$Input"
  | 2 => .int
  | _ => .int
abbrev wsX90 : List Cond := u_ws RX9 TX9 4
theorem nmX9 : ∀ a, a < 4 → ∀ b, b < 4 → a ≠ b → (TX9 a).2.1 ≠ (TX9 b).2.1 := by decide +kernel
theorem tyX9_ok : ∀ k, k < 4 → parseFieldDescriptor (TX9 k).2.2.1 = some (tyX9 k) := by decide +kernel
abbrev cX9_init : ByteArray := prog_11_method_1_code
def yX9_init : MethodName := ⟨RX9, "<init>", "()V"⟩
abbrev cX9_execute : ByteArray := prog_11_method_2_code
def yX9_execute : MethodName := ⟨RX9, "execute", "()V"⟩
abbrev cX9_goesOn : ByteArray := prog_11_method_3_code
def yX9_goesOn : MethodName := ⟨RX9, "goesOn", "()Z"⟩
abbrev cX9_fail : ByteArray := prog_11_method_4_code
def yX9_fail : MethodName := ⟨RX9, "fail", "(I)V"⟩
abbrev cX9_readGarden : ByteArray := prog_11_method_5_code
def yX9_readGarden : MethodName := ⟨RX9, "readGarden", "()V"⟩
abbrev cX9_readPrice : ByteArray := prog_11_method_6_code
def yX9_readPrice : MethodName := ⟨RX9, "readPrice", "()V"⟩
abbrev cX9_readCommand : ByteArray := prog_11_method_7_code
def yX9_readCommand : MethodName := ⟨RX9, "readCommand", "()V"⟩
abbrev cX9_readBed : ByteArray := prog_11_method_8_code
def yX9_readBed : MethodName := ⟨RX9, "readBed", "()V"⟩
abbrev cX9_readSell : ByteArray := prog_11_method_9_code
def yX9_readSell : MethodName := ⟨RX9, "readSell", "()V"⟩
abbrev cX9_readVisit : ByteArray := prog_11_method_10_code
def yX9_readVisit : MethodName := ⟨RX9, "readVisit", "()V"⟩
abbrev cX9_readPluck : ByteArray := prog_11_method_11_code
def yX9_readPluck : MethodName := ⟨RX9, "readPluck", "()V"⟩
abbrev cX9_readPay : ByteArray := prog_11_method_12_code
def yX9_readPay : MethodName := ⟨RX9, "readPay", "()V"⟩
abbrev cX9_readLost : ByteArray := prog_11_method_13_code
def yX9_readLost : MethodName := ⟨RX9, "readLost", "()V"⟩
abbrev cX9_readReplace : ByteArray := prog_11_method_14_code
def yX9_readReplace : MethodName := ⟨RX9, "readReplace", "()V"⟩
abbrev cX9_readPeacocks : ByteArray := prog_11_method_15_code
def yX9_readPeacocks : MethodName := ⟨RX9, "readPeacocks", "()V"⟩
abbrev cX9_readPass : ByteArray := prog_11_method_16_code
def yX9_readPass : MethodName := ⟨RX9, "readPass", "()V"⟩
abbrev cX9_readRefund : ByteArray := prog_11_method_17_code
def yX9_readRefund : MethodName := ⟨RX9, "readRefund", "()V"⟩
abbrev cX9_nextKind : ByteArray := prog_11_method_18_code
def yX9_nextKind : MethodName := ⟨RX9, "nextKind", "()I"⟩
abbrev cX9_nextNumber : ByteArray := prog_11_method_19_code
def yX9_nextNumber : MethodName := ⟨RX9, "nextNumber", "(II)I"⟩
abbrev cX9_numberHere : ByteArray := prog_11_method_20_code
def yX9_numberHere : MethodName := ⟨RX9, "numberHere", "(II)I"⟩
abbrev cX9_isAtSemicolon : ByteArray := prog_11_method_21_code
def yX9_isAtSemicolon : MethodName := ⟨RX9, "isAtSemicolon", "()Z"⟩
abbrev cX9_isComplete : ByteArray := prog_11_method_22_code
def yX9_isComplete : MethodName := ⟨RX9, "isComplete", "()Z"⟩
abbrev cX9_executes : ByteArray := prog_11_method_23_code
def yX9_executes : MethodName := ⟨RX9, "executes", "(Z)Z"⟩
def RX10 : String := "GardenBureau$Tariff"
def TX10 : u_T := fun k => match k with
  | 0 => ("GardenBureau$Tariff", "scents", "I", false)
  | 1 => ("GardenBureau$Tariff", "rate", "I", false)
  | _ => ("GardenBureau$Tariff", "price", "[I", true)
def tyX10 : Nat → FieldType := fun k => match k with
  | 0 => .int
  | 1 => .int
  | _ => .array .int
abbrev wsX100 : List Cond := u_ws RX10 TX10 3
theorem nmX10 : ∀ a, a < 3 → ∀ b, b < 3 → a ≠ b → (TX10 a).2.1 ≠ (TX10 b).2.1 := by decide +kernel
theorem tyX10_ok : ∀ k, k < 3 → parseFieldDescriptor (TX10 k).2.2.1 = some (tyX10 k) := by decide +kernel
abbrev cX10_init : ByteArray := prog_12_method_1_code
def yX10_init : MethodName := ⟨RX10, "<init>", "()V"⟩
abbrev cX10_reset : ByteArray := prog_12_method_2_code
def yX10_reset : MethodName := ⟨RX10, "reset", "()V"⟩
abbrev cX10_copyFrom : ByteArray := prog_12_method_3_code
def yX10_copyFrom : MethodName := ⟨RX10, "copyFrom", "(LGardenBureau$Tariff;)V"⟩
abbrev cX10_has : ByteArray := prog_12_method_4_code
def yX10_has : MethodName := ⟨RX10, "has", "(I)Z"⟩
abbrev cX10_hasRoom : ByteArray := prog_12_method_5_code
def yX10_hasRoom : MethodName := ⟨RX10, "hasRoom", "()Z"⟩
abbrev cX10_add : ByteArray := prog_12_method_6_code
def yX10_add : MethodName := ⟨RX10, "add", "(I)V"⟩
abbrev cX10_setOfAllScents : ByteArray := prog_12_method_7_code
def yX10_setOfAllScents : MethodName := ⟨RX10, "setOfAllScents", "()I"⟩
abbrev cX10_priceOfPass : ByteArray := prog_12_method_8_code
def yX10_priceOfPass : MethodName := ⟨RX10, "priceOfPass", "(III)I"⟩
abbrev cX10_percentForDays : ByteArray := prog_12_method_9_code
def yX10_percentForDays : MethodName := ⟨RX10, "percentForDays", "(I)I"⟩
def RX11 : String := "GardenBureau"
def TX11 : u_T := fun k => match k with
  | 0 => ("GardenBureau", "garden", "LGardenBureau$Garden;", true)
  | 1 => ("GardenBureau", "snapshot", "LGardenBureau$Garden;", true)
  | 2 => ("GardenBureau", "history", "LGardenBureau$History;", true)
  | 3 => ("GardenBureau", "script", "LGardenBureau$Script;", true)
  | 4 => ("GardenBureau", "input", "LGardenBureau$Input;", true)
  | 5 => ("GardenBureau", "report", "LGardenBureau$Report;", true)
  | _ => ("GardenBureau", "hasSnapshot", "Z", false)
def tyX11 : Nat → FieldType := fun k => match k with
  | 0 => .object "GardenBureau$Garden"
  | 1 => .object "GardenBureau$Garden"
  | 2 => .object "GardenBureau$History"
  | 3 => .object "GardenBureau$Script"
  | 4 => .object "GardenBureau$Input"
  | 5 => .object "GardenBureau$Report"
  | _ => .boolean
abbrev wsX110 : List Cond := u_ws RX11 TX11 7
theorem nmX11 : ∀ a, a < 7 → ∀ b, b < 7 → a ≠ b → (TX11 a).2.1 ≠ (TX11 b).2.1 := by decide +kernel
theorem tyX11_ok : ∀ k, k < 7 → parseFieldDescriptor (TX11 k).2.2.1 = some (tyX11 k) := by decide +kernel
abbrev cX11_init : ByteArray := prog_1_method_1_code
def yX11_init : MethodName := ⟨RX11, "<init>", "()V"⟩
abbrev cX11_append : ByteArray := prog_1_method_2_code
def yX11_append : MethodName := ⟨RX11, "append", "(IIIII)I"⟩
abbrev cX11_runScript : ByteArray := prog_1_method_4_code
def yX11_runScript : MethodName := ⟨RX11, "runScript", "()I"⟩
abbrev cX11_setPrice : ByteArray := prog_1_method_5_code
def yX11_setPrice : MethodName := ⟨RX11, "setPrice", "(II)I"⟩
abbrev cX11_setRate : ByteArray := prog_1_method_6_code
def yX11_setRate : MethodName := ⟨RX11, "setRate", "(I)I"⟩
abbrev cX11_layBed : ByteArray := prog_1_method_7_code
def yX11_layBed : MethodName := ⟨RX11, "layBed", "(IIII)I"⟩
abbrev cX11_setPeacocks : ByteArray := prog_1_method_8_code
def yX11_setPeacocks : MethodName := ⟨RX11, "setPeacocks", "(II)I"⟩
abbrev cX11_setPause : ByteArray := prog_1_method_9_code
def yX11_setPause : MethodName := ⟨RX11, "setPause", "(I)I"⟩
abbrev cX11_sell : ByteArray := prog_1_method_10_code
def yX11_sell : MethodName := ⟨RX11, "sell", "(IIII)I"⟩
abbrev cX11_extend : ByteArray := prog_1_method_11_code
def yX11_extend : MethodName := ⟨RX11, "extend", "(II)I"⟩
abbrev cX11_addScent : ByteArray := prog_1_method_12_code
def yX11_addScent : MethodName := ⟨RX11, "addScent", "(II)I"⟩
abbrev cX11_reportLost : ByteArray := prog_1_method_13_code
def yX11_reportLost : MethodName := ⟨RX11, "reportLost", "(I)I"⟩
abbrev cX11_replaceCard : ByteArray := prog_1_method_14_code
def yX11_replaceCard : MethodName := ⟨RX11, "replaceCard", "(I)I"⟩
abbrev cX11_refundPass : ByteArray := prog_1_method_15_code
def yX11_refundPass : MethodName := ⟨RX11, "refundPass", "(I)I"⟩
abbrev cX11_visit : ByteArray := prog_1_method_16_code
def yX11_visit : MethodName := ⟨RX11, "visit", "(II)I"⟩
abbrev cX11_pluck : ByteArray := prog_1_method_17_code
def yX11_pluck : MethodName := ⟨RX11, "pluck", "(II)I"⟩
abbrev cX11_payFines : ByteArray := prog_1_method_18_code
def yX11_payFines : MethodName := ⟨RX11, "payFines", "(II)I"⟩
abbrev cX11_pass : ByteArray := prog_1_method_19_code
def yX11_pass : MethodName := ⟨RX11, "pass", "(I)I"⟩
abbrev cX11_undo : ByteArray := prog_1_method_20_code
def yX11_undo : MethodName := ⟨RX11, "undo", "()I"⟩
abbrev cX11_time : ByteArray := prog_1_method_26_code
def yX11_time : MethodName := ⟨RX11, "time", "()I"⟩
abbrev cX11_day : ByteArray := prog_1_method_27_code
def yX11_day : MethodName := ⟨RX11, "day", "()I"⟩
abbrev cX11_isOpen : ByteArray := prog_1_method_28_code
def yX11_isOpen : MethodName := ⟨RX11, "isOpen", "()Z"⟩
abbrev cX11_ticksUntilOpen : ByteArray := prog_1_method_29_code
def yX11_ticksUntilOpen : MethodName := ⟨RX11, "ticksUntilOpen", "()I"⟩
abbrev cX11_bedCount : ByteArray := prog_1_method_30_code
def yX11_bedCount : MethodName := ⟨RX11, "bedCount", "()I"⟩
abbrev cX11_isInSeason : ByteArray := prog_1_method_32_code
def yX11_isInSeason : MethodName := ⟨RX11, "isInSeason", "(I)Z"⟩
abbrev cX11_blooms : ByteArray := prog_1_method_33_code
def yX11_blooms : MethodName := ⟨RX11, "blooms", "(I)I"⟩
abbrev cX11_placesLeft : ByteArray := prog_1_method_34_code
def yX11_placesLeft : MethodName := ⟨RX11, "placesLeft", "(I)I"⟩
abbrev cX11_visitsTo : ByteArray := prog_1_method_35_code
def yX11_visitsTo : MethodName := ⟨RX11, "visitsTo", "(I)I"⟩
abbrev cX11_passCount : ByteArray := prog_1_method_36_code
def yX11_passCount : MethodName := ⟨RX11, "passCount", "()I"⟩
abbrev cX11_firstDay : ByteArray := prog_1_method_38_code
def yX11_firstDay : MethodName := ⟨RX11, "firstDay", "(I)I"⟩
abbrev cX11_lastDay : ByteArray := prog_1_method_39_code
def yX11_lastDay : MethodName := ⟨RX11, "lastDay", "(I)I"⟩
abbrev cX11_priceOf : ByteArray := prog_1_method_40_code
def yX11_priceOf : MethodName := ⟨RX11, "priceOf", "(I)I"⟩
abbrev cX11_cardOf : ByteArray := prog_1_method_41_code
def yX11_cardOf : MethodName := ⟨RX11, "cardOf", "(I)I"⟩
abbrev cX11_isReturned : ByteArray := prog_1_method_42_code
def yX11_isReturned : MethodName := ⟨RX11, "isReturned", "(I)Z"⟩
abbrev cX11_usedDays : ByteArray := prog_1_method_43_code
def yX11_usedDays : MethodName := ⟨RX11, "usedDays", "(I)I"⟩
abbrev cX11_visitsWith : ByteArray := prog_1_method_44_code
def yX11_visitsWith : MethodName := ⟨RX11, "visitsWith", "(I)I"⟩
abbrev cX11_refundOf : ByteArray := prog_1_method_45_code
def yX11_refundOf : MethodName := ⟨RX11, "refundOf", "(I)I"⟩
abbrev cX11_owed : ByteArray := prog_1_method_46_code
def yX11_owed : MethodName := ⟨RX11, "owed", "(I)I"⟩
abbrev cX11_ticksUntilReady : ByteArray := prog_1_method_47_code
def yX11_ticksUntilReady : MethodName := ⟨RX11, "ticksUntilReady", "(I)I"⟩
abbrev cX11_cardCount : ByteArray := prog_1_method_48_code
def yX11_cardCount : MethodName := ⟨RX11, "cardCount", "()I"⟩
abbrev cX11_passOf : ByteArray := prog_1_method_49_code
def yX11_passOf : MethodName := ⟨RX11, "passOf", "(I)I"⟩
abbrev cX11_isBlocked : ByteArray := prog_1_method_50_code
def yX11_isBlocked : MethodName := ⟨RX11, "isBlocked", "(I)Z"⟩
abbrev cX11_whyRefused : ByteArray := prog_1_method_51_code
def yX11_whyRefused : MethodName := ⟨RX11, "whyRefused", "(II)I"⟩
abbrev cX11_takings : ByteArray := prog_1_method_56_code
def yX11_takings : MethodName := ⟨RX11, "takings", "()I"⟩
abbrev cX11_refunds : ByteArray := prog_1_method_57_code
def yX11_refunds : MethodName := ⟨RX11, "refunds", "()I"⟩
abbrev cX11_finesPaid : ByteArray := prog_1_method_58_code
def yX11_finesPaid : MethodName := ⟨RX11, "finesPaid", "()I"⟩
abbrev cX11_plucked : ByteArray := prog_1_method_59_code
def yX11_plucked : MethodName := ⟨RX11, "plucked", "()I"⟩
abbrev cX11_alarms : ByteArray := prog_1_method_60_code
def yX11_alarms : MethodName := ⟨RX11, "alarms", "()I"⟩
abbrev cX11_violations : ByteArray := prog_1_method_63_code
def yX11_violations : MethodName := ⟨RX11, "violations", "()I"⟩
abbrev cX11_requireScent : ByteArray := prog_1_method_66_code
def yX11_requireScent : MethodName := ⟨RX11, "requireScent", "(I)V"⟩
abbrev cX11_requireBed : ByteArray := prog_1_method_67_code
def yX11_requireBed : MethodName := ⟨RX11, "requireBed", "(I)V"⟩
abbrev cX11_requirePass : ByteArray := prog_1_method_68_code
def yX11_requirePass : MethodName := ⟨RX11, "requirePass", "(I)V"⟩
abbrev cX11_requireCard : ByteArray := prog_1_method_69_code
def yX11_requireCard : MethodName := ⟨RX11, "requireCard", "(I)V"⟩
abbrev cX11_requireSetOfScents : ByteArray := prog_1_method_70_code
def yX11_requireSetOfScents : MethodName := ⟨RX11, "requireSetOfScents", "(I)V"⟩
abbrev cX11_requireRange : ByteArray := prog_1_method_71_code
def yX11_requireRange : MethodName := ⟨RX11, "requireRange", "(III)V"⟩
abbrev cX11_requireState : ByteArray := prog_1_method_72_code
def yX11_requireState : MethodName := ⟨RX11, "requireState", "(Z)V"⟩
def RX12 : String := "GardenBureauModel"
def TX12 : u_T := fun k => match k with
  | _ => ("", "", "", false)
def tyX12 : Nat → FieldType := fun k => match k with
  | _ => .int
abbrev wsX120 : List Cond := u_ws RX12 TX12 0
theorem nmX12 : ∀ a, a < 0 → ∀ b, b < 0 → a ≠ b → (TX12 a).2.1 ≠ (TX12 b).2.1 := by decide +kernel
theorem tyX12_ok : ∀ k, k < 0 → parseFieldDescriptor (TX12 k).2.2.1 = some (tyX12 k) := by decide +kernel
def RJx145de : String := "java/io/Serializable"
def TJx145de : u_T := fun k => match k with
  | _ => ("", "", "", false)
def tyJx145de : Nat → FieldType := fun k => match k with
  | _ => .int
theorem nmJx145de : ∀ a, a < 0 → ∀ b, b < 0 → a ≠ b → (TJx145de a).2.1 ≠ (TJx145de b).2.1 := by decide +kernel
theorem tyJx145de_ok : ∀ k, k < 0 → parseFieldDescriptor (TJx145de k).2.2.1 = some (tyJx145de k) := by decide +kernel
def RJ5 : String := "java/lang/AbstractStringBuilder"
def TJ5 : u_T := fun k => match k with
  | _ => ("", "", "", false)
def tyJ5 : Nat → FieldType := fun k => match k with
  | _ => .int
abbrev wsJ50 : List Cond := u_ws RJ5 TJ5 0
theorem nmJ5 : ∀ a, a < 0 → ∀ b, b < 0 → a ≠ b → (TJ5 a).2.1 ≠ (TJ5 b).2.1 := by decide +kernel
theorem tyJ5_ok : ∀ k, k < 0 → parseFieldDescriptor (TJ5 k).2.2.1 = some (tyJ5 k) := by decide +kernel
abbrev cJ5_init_a7421 : ByteArray := prog_15_method_3_code
def yJ5_init_a7421 : MethodName := ⟨RJ5, "<init>", "(Ljava/lang/String;)V"⟩
abbrev cJ5_length_8abf5 : ByteArray := prog_15_method_6_code
def yJ5_length_8abf5 : MethodName := ⟨RJ5, "length", "()I"⟩
abbrev cJ5_ensureCapacityInternal_d00df : ByteArray := prog_15_method_9_code
def yJ5_ensureCapacityInternal_d00df : MethodName := ⟨RJ5, "ensureCapacityInternal", "(I)V"⟩
abbrev cJ5_newCapacity_0f7a4 : ByteArray := prog_15_method_10_code
def yJ5_newCapacity_0f7a4 : MethodName := ⟨RJ5, "newCapacity", "(I)I"⟩
abbrev cJ5_inflate_da8c8 : ByteArray := prog_15_method_11_code
def yJ5_inflate_da8c8 : MethodName := ⟨RJ5, "inflate", "()V"⟩
abbrev cJ5_charAt_5068e : ByteArray := prog_15_method_14_code
def yJ5_charAt_5068e : MethodName := ⟨RJ5, "charAt", "(I)C"⟩
abbrev cJ5_append_cf1ce : ByteArray := prog_15_method_22_code
def yJ5_append_cf1ce : MethodName := ⟨RJ5, "append", "(Ljava/lang/String;)Ljava/lang/AbstractStringBuilder;"⟩
abbrev cJ5_appendNull_278bc : ByteArray := prog_15_method_26_code
def yJ5_appendNull_278bc : MethodName := ⟨RJ5, "appendNull", "()Ljava/lang/AbstractStringBuilder;"⟩
abbrev cJ5_append_3fe6f : ByteArray := prog_15_method_31_code
def yJ5_append_3fe6f : MethodName := ⟨RJ5, "append", "(C)Ljava/lang/AbstractStringBuilder;"⟩
abbrev cJ5_append_c97b9 : ByteArray := prog_15_method_32_code
def yJ5_append_c97b9 : MethodName := ⟨RJ5, "append", "(I)Ljava/lang/AbstractStringBuilder;"⟩
abbrev cJ5_isLatin1_aae02 : ByteArray := prog_15_method_68_code
def yJ5_isLatin1_aae02 : MethodName := ⟨RJ5, "isLatin1", "()Z"⟩
abbrev cJ5_inflateIfNeededFor_a7421 : ByteArray := prog_15_method_71_code
def yJ5_inflateIfNeededFor_a7421 : MethodName := ⟨RJ5, "inflateIfNeededFor", "(Ljava/lang/String;)V"⟩
abbrev cJ5_putStringAt_47b60 : ByteArray := prog_15_method_73_code
def yJ5_putStringAt_47b60 : MethodName := ⟨RJ5, "putStringAt", "(ILjava/lang/String;)V"⟩
def RJx2cfe8 : String := "java/lang/Appendable"
def TJx2cfe8 : u_T := fun k => match k with
  | _ => ("", "", "", false)
def tyJx2cfe8 : Nat → FieldType := fun k => match k with
  | _ => .int
theorem nmJx2cfe8 : ∀ a, a < 0 → ∀ b, b < 0 → a ≠ b → (TJx2cfe8 a).2.1 ≠ (TJx2cfe8 b).2.1 := by decide +kernel
theorem tyJx2cfe8_ok : ∀ k, k < 0 → parseFieldDescriptor (TJx2cfe8 k).2.2.1 = some (tyJx2cfe8 k) := by decide +kernel
def RJx9f9b0 : String := "java/lang/CharSequence"
def TJx9f9b0 : u_T := fun k => match k with
  | _ => ("", "", "", false)
def tyJx9f9b0 : Nat → FieldType := fun k => match k with
  | _ => .int
theorem nmJx9f9b0 : ∀ a, a < 0 → ∀ b, b < 0 → a ≠ b → (TJx9f9b0 a).2.1 ≠ (TJx9f9b0 b).2.1 := by decide +kernel
theorem tyJx9f9b0_ok : ∀ k, k < 0 → parseFieldDescriptor (TJx9f9b0 k).2.2.1 = some (tyJx9f9b0 k) := by decide +kernel
def RJx8e188 : String := "java/lang/Cloneable"
def TJx8e188 : u_T := fun k => match k with
  | _ => ("", "", "", false)
def tyJx8e188 : Nat → FieldType := fun k => match k with
  | _ => .int
theorem nmJx8e188 : ∀ a, a < 0 → ∀ b, b < 0 → a ≠ b → (TJx8e188 a).2.1 ≠ (TJx8e188 b).2.1 := by decide +kernel
theorem tyJx8e188_ok : ∀ k, k < 0 → parseFieldDescriptor (TJx8e188 k).2.2.1 = some (tyJx8e188 k) := by decide +kernel
def RJxb160c : String := "java/lang/Comparable"
def TJxb160c : u_T := fun k => match k with
  | _ => ("", "", "", false)
def tyJxb160c : Nat → FieldType := fun k => match k with
  | _ => .int
theorem nmJxb160c : ∀ a, a < 0 → ∀ b, b < 0 → a ≠ b → (TJxb160c a).2.1 ≠ (TJxb160c b).2.1 := by decide +kernel
theorem tyJxb160c_ok : ∀ k, k < 0 → parseFieldDescriptor (TJxb160c k).2.2.1 = some (tyJxb160c k) := by decide +kernel
def RJ6 : String := "java/lang/Integer"
def TJ6 : u_T := fun k => match k with
  | _ => ("", "", "", false)
def tyJ6 : Nat → FieldType := fun k => match k with
  | _ => .int
abbrev wsJ60 : List Cond := u_ws RJ6 TJ6 0
theorem nmJ6 : ∀ a, a < 0 → ∀ b, b < 0 → a ≠ b → (TJ6 a).2.1 ≠ (TJ6 b).2.1 := by decide +kernel
theorem tyJ6_ok : ∀ k, k < 0 → parseFieldDescriptor (TJ6 k).2.2.1 = some (tyJ6 k) := by decide +kernel
abbrev cJ6_getChars_ba4f3 : ByteArray := prog_21_method_12_code
def yJ6_getChars_ba4f3 : MethodName := ⟨RJ6, "getChars", "(II[B)I"⟩
abbrev cJ6_stringSize_0f7a4 : ByteArray := prog_21_method_13_code
def yJ6_stringSize_0f7a4 : MethodName := ⟨RJ6, "stringSize", "(I)I"⟩
abbrev cJ6_bitCount_0f7a4 : ByteArray := prog_21_method_49_code
def yJ6_bitCount_0f7a4 : MethodName := ⟨RJ6, "bitCount", "(I)I"⟩
def RJ9 : String := "java/lang/Math"
def TJ9 : u_T := fun k => match k with
  | _ => ("", "", "", false)
def tyJ9 : Nat → FieldType := fun k => match k with
  | _ => .int
abbrev wsJ90 : List Cond := u_ws RJ9 TJ9 0
theorem nmJ9 : ∀ a, a < 0 → ∀ b, b < 0 → a ≠ b → (TJ9 a).2.1 ≠ (TJ9 b).2.1 := by decide +kernel
theorem tyJ9_ok : ∀ k, k < 0 → parseFieldDescriptor (TJ9 k).2.2.1 = some (tyJ9 k) := by decide +kernel
abbrev cJ9_floorMod_7cf53 : ByteArray := prog_22_method_50_code
def yJ9_floorMod_7cf53 : MethodName := ⟨RJ9, "floorMod", "(II)I"⟩
abbrev cJ9_max_7cf53 : ByteArray := prog_22_method_65_code
def yJ9_max_7cf53 : MethodName := ⟨RJ9, "max", "(II)I"⟩
abbrev cJ9_min_7cf53 : ByteArray := prog_22_method_69_code
def yJ9_min_7cf53 : MethodName := ⟨RJ9, "min", "(II)I"⟩
def RJxd2413 : String := "java/lang/Number"
def TJxd2413 : u_T := fun k => match k with
  | _ => ("", "", "", false)
def tyJxd2413 : Nat → FieldType := fun k => match k with
  | _ => .int
theorem nmJxd2413 : ∀ a, a < 0 → ∀ b, b < 0 → a ≠ b → (TJxd2413 a).2.1 ≠ (TJxd2413 b).2.1 := by decide +kernel
theorem tyJxd2413_ok : ∀ k, k < 0 → parseFieldDescriptor (TJxd2413 k).2.2.1 = some (tyJxd2413 k) := by decide +kernel
def RJ0 : String := "java/lang/String"
def TJ0 : u_T := fun k => match k with
  | _ => ("", "", "", false)
def tyJ0 : Nat → FieldType := fun k => match k with
  | _ => .int
abbrev wsJ00 : List Cond := u_ws RJ0 TJ0 0
theorem nmJ0 : ∀ a, a < 0 → ∀ b, b < 0 → a ≠ b → (TJ0 a).2.1 ≠ (TJ0 b).2.1 := by decide +kernel
theorem tyJ0_ok : ∀ k, k < 0 → parseFieldDescriptor (TJ0 k).2.2.1 = some (tyJ0 k) := by decide +kernel
abbrev cJ0_length_8abf5 : ByteArray := prog_25_method_54_code
def yJ0_length_8abf5 : MethodName := ⟨RJ0, "length", "()I"⟩
abbrev cJ0_charAt_5068e : ByteArray := prog_25_method_56_code
def yJ0_charAt_5068e : MethodName := ⟨RJ0, "charAt", "(I)C"⟩
abbrev cJ0_getBytes_840e7 : ByteArray := prog_25_method_147_code
def yJ0_getBytes_840e7 : MethodName := ⟨RJ0, "getBytes", "([BIB)V"⟩
abbrev cJ0_coder_7d493 : ByteArray := prog_25_method_152_code
def yJ0_coder_7d493 : MethodName := ⟨RJ0, "coder", "()B"⟩
abbrev cJ0_isLatin1_aae02 : ByteArray := prog_25_method_154_code
def yJ0_isLatin1_aae02 : MethodName := ⟨RJ0, "isLatin1", "()Z"⟩
abbrev cJ0_checkIndex_df160 : ByteArray := prog_25_method_155_code
def yJ0_checkIndex_df160 : MethodName := ⟨RJ0, "checkIndex", "(II)V"⟩
abbrev cJ0_checkBoundsOffCount_cabcc : ByteArray := prog_25_method_157_code
def yJ0_checkBoundsOffCount_cabcc : MethodName := ⟨RJ0, "checkBoundsOffCount", "(III)I"⟩
abbrev cJ0_checkBoundsBeginEnd_23922 : ByteArray := prog_25_method_158_code
def yJ0_checkBoundsBeginEnd_23922 : MethodName := ⟨RJ0, "checkBoundsBeginEnd", "(III)V"⟩
def RJ4 : String := "java/lang/StringBuilder"
def TJ4 : u_T := fun k => match k with
  | 0 => ("java/lang/AbstractStringBuilder", "value", "[B", false)
  | 1 => ("java/lang/AbstractStringBuilder", "coder", "B", false)
  | 2 => ("java/lang/AbstractStringBuilder", "maybeLatin1", "Z", false)
  | _ => ("java/lang/AbstractStringBuilder", "count", "I", false)
def tyJ4 : Nat → FieldType := fun k => match k with
  | 0 => .array .byte
  | 1 => .byte
  | 2 => .boolean
  | _ => .int
abbrev wsJ40 : List Cond := u_ws RJ4 TJ4 4
theorem nmJ4 : ∀ a, a < 4 → ∀ b, b < 4 → a ≠ b → (TJ4 a).2.1 ≠ (TJ4 b).2.1 := by decide +kernel
theorem tyJ4_ok : ∀ k, k < 4 → parseFieldDescriptor (TJ4 k).2.2.1 = some (tyJ4 k) := by decide +kernel
abbrev cJ4_init_a7421 : ByteArray := prog_26_method_3_code
def yJ4_init_a7421 : MethodName := ⟨RJ4, "<init>", "(Ljava/lang/String;)V"⟩
abbrev cJ4_append_15ec4 : ByteArray := prog_26_method_7_code
def yJ4_append_15ec4 : MethodName := ⟨RJ4, "append", "(Ljava/lang/String;)Ljava/lang/StringBuilder;"⟩
abbrev cJ4_append_cf468 : ByteArray := prog_26_method_14_code
def yJ4_append_cf468 : MethodName := ⟨RJ4, "append", "(C)Ljava/lang/StringBuilder;"⟩
abbrev cJ4_append_bf812 : ByteArray := prog_26_method_15_code
def yJ4_append_bf812 : MethodName := ⟨RJ4, "append", "(I)Ljava/lang/StringBuilder;"⟩
abbrev cJ4_append_cf1ce : ByteArray := prog_26_method_80_code
def yJ4_append_cf1ce : MethodName := ⟨RJ4, "append", "(Ljava/lang/String;)Ljava/lang/AbstractStringBuilder;"⟩
abbrev cJ4_charAt_5068e : ByteArray := prog_26_method_88_code
def yJ4_charAt_5068e : MethodName := ⟨RJ4, "charAt", "(I)C"⟩
abbrev cJ4_length_8abf5 : ByteArray := prog_26_method_93_code
def yJ4_length_8abf5 : MethodName := ⟨RJ4, "length", "()I"⟩
def RJ1 : String := "java/lang/StringLatin1"
def TJ1 : u_T := fun k => match k with
  | _ => ("", "", "", false)
def tyJ1 : Nat → FieldType := fun k => match k with
  | _ => .int
abbrev wsJ10 : List Cond := u_ws RJ1 TJ1 0
theorem nmJ1 : ∀ a, a < 0 → ∀ b, b < 0 → a ≠ b → (TJ1 a).2.1 ≠ (TJ1 b).2.1 := by decide +kernel
theorem tyJ1_ok : ∀ k, k < 0 → parseFieldDescriptor (TJ1 k).2.2.1 = some (tyJ1 k) := by decide +kernel
abbrev cJ1_charAt_3b067 : ByteArray := prog_27_method_2_code
def yJ1_charAt_3b067 : MethodName := ⟨RJ1, "charAt", "([BI)C"⟩
abbrev cJ1_canEncode_fc78d : ByteArray := prog_27_method_3_code
def yJ1_canEncode_fc78d : MethodName := ⟨RJ1, "canEncode", "(C)Z"⟩
abbrev cJ1_inflate_0e8fd : ByteArray := prog_27_method_50_code
def yJ1_inflate_0e8fd : MethodName := ⟨RJ1, "inflate", "([BI[BII)V"⟩
def RJ2 : String := "java/lang/StringUTF16"
def TJ2 : u_T := fun k => match k with
  | _ => ("", "", "", false)
def tyJ2 : Nat → FieldType := fun k => match k with
  | _ => .int
abbrev wsJ20 : List Cond := u_ws RJ2 TJ2 0
theorem nmJ2 : ∀ a, a < 0 → ∀ b, b < 0 → a ≠ b → (TJ2 a).2.1 ≠ (TJ2 b).2.1 := by decide +kernel
theorem tyJ2_ok : ∀ k, k < 0 → parseFieldDescriptor (TJ2 k).2.2.1 = some (tyJ2 k) := by decide +kernel
abbrev cJ2_newBytesFor_77867 : ByteArray := prog_28_method_2_code
def yJ2_newBytesFor_77867 : MethodName := ⟨RJ2, "newBytesFor", "(I)[B"⟩
abbrev cJ2_newBytesLength_0f7a4 : ByteArray := prog_28_method_3_code
def yJ2_newBytesLength_0f7a4 : MethodName := ⟨RJ2, "newBytesLength", "(I)I"⟩
abbrev cJ2_putChar_b72d1 : ByteArray := prog_28_method_4_code
def yJ2_putChar_b72d1 : MethodName := ⟨RJ2, "putChar", "([BII)V"⟩
abbrev cJ2_getChar_3b067 : ByteArray := prog_28_method_5_code
def yJ2_getChar_3b067 : MethodName := ⟨RJ2, "getChar", "([BI)C"⟩
abbrev cJ2_length_9d52b : ByteArray := prog_28_method_6_code
def yJ2_length_9d52b : MethodName := ⟨RJ2, "length", "([B)I"⟩
abbrev cJ2_putCharSB_b72d1 : ByteArray := prog_28_method_71_code
def yJ2_putCharSB_b72d1 : MethodName := ⟨RJ2, "putCharSB", "([BII)V"⟩
abbrev cJ2_getChars_46870 : ByteArray := prog_28_method_77_code
def yJ2_getChars_46870 : MethodName := ⟨RJ2, "getChars", "(III[B)I"⟩
abbrev cJ2_putCharsAt_cd4e5 : ByteArray := prog_28_method_81_code
def yJ2_putCharsAt_cd4e5 : MethodName := ⟨RJ2, "putCharsAt", "([BICCCC)I"⟩
abbrev cJ2_charAt_3b067 : ByteArray := prog_28_method_83_code
def yJ2_charAt_3b067 : MethodName := ⟨RJ2, "charAt", "([BI)C"⟩
abbrev cJ2_inflate_0e8fd : ByteArray := prog_28_method_86_code
def yJ2_inflate_0e8fd : MethodName := ⟨RJ2, "inflate", "([BI[BII)V"⟩
abbrev cJ2_getChars_ba4f3 : ByteArray := prog_28_method_89_code
def yJ2_getChars_ba4f3 : MethodName := ⟨RJ2, "getChars", "(II[B)I"⟩
abbrev cJ2_checkIndex_2214a : ByteArray := prog_28_method_91_code
def yJ2_checkIndex_2214a : MethodName := ⟨RJ2, "checkIndex", "(I[B)V"⟩
abbrev cJ2_checkBoundsBeginEnd_d044e : ByteArray := prog_28_method_93_code
def yJ2_checkBoundsBeginEnd_d044e : MethodName := ⟨RJ2, "checkBoundsBeginEnd", "(II[B)V"⟩
abbrev cJ2_checkBoundsOffCount_d044e : ByteArray := prog_28_method_94_code
def yJ2_checkBoundsOffCount_d044e : MethodName := ⟨RJ2, "checkBoundsOffCount", "(II[B)V"⟩
def RJ10 : String := "java/lang/System"
def TJ10 : u_T := fun k => match k with
  | _ => ("", "", "", false)
def tyJ10 : Nat → FieldType := fun k => match k with
  | _ => .int
abbrev wsJ100 : List Cond := u_ws RJ10 TJ10 0
theorem nmJ10 : ∀ a, a < 0 → ∀ b, b < 0 → a ≠ b → (TJ10 a).2.1 ≠ (TJ10 b).2.1 := by decide +kernel
theorem tyJ10_ok : ∀ k, k < 0 → parseFieldDescriptor (TJ10 k).2.2.1 = some (tyJ10 k) := by decide +kernel
def RJxfd54e : String := "java/lang/constant/Constable"
def TJxfd54e : u_T := fun k => match k with
  | _ => ("", "", "", false)
def tyJxfd54e : Nat → FieldType := fun k => match k with
  | _ => .int
theorem nmJxfd54e : ∀ a, a < 0 → ∀ b, b < 0 → a ≠ b → (TJxfd54e a).2.1 ≠ (TJxfd54e b).2.1 := by decide +kernel
theorem tyJxfd54e_ok : ∀ k, k < 0 → parseFieldDescriptor (TJxfd54e k).2.2.1 = some (tyJxfd54e k) := by decide +kernel
def RJx3cf43 : String := "java/lang/constant/ConstantDesc"
def TJx3cf43 : u_T := fun k => match k with
  | _ => ("", "", "", false)
def tyJx3cf43 : Nat → FieldType := fun k => match k with
  | _ => .int
theorem nmJx3cf43 : ∀ a, a < 0 → ∀ b, b < 0 → a ≠ b → (TJx3cf43 a).2.1 ≠ (TJx3cf43 b).2.1 := by decide +kernel
theorem tyJx3cf43_ok : ∀ k, k < 0 → parseFieldDescriptor (TJx3cf43 k).2.2.1 = some (tyJx3cf43 k) := by decide +kernel
def RJ7 : String := "java/util/Arrays"
def TJ7 : u_T := fun k => match k with
  | _ => ("", "", "", false)
def tyJ7 : Nat → FieldType := fun k => match k with
  | _ => .int
abbrev wsJ70 : List Cond := u_ws RJ7 TJ7 0
theorem nmJ7 : ∀ a, a < 0 → ∀ b, b < 0 → a ≠ b → (TJ7 a).2.1 ≠ (TJ7 b).2.1 := by decide +kernel
theorem tyJ7_ok : ∀ k, k < 0 → parseFieldDescriptor (TJ7 k).2.2.1 = some (tyJ7 k) := by decide +kernel
abbrev cJ7_copyOf_9075b : ByteArray := prog_31_method_121_code
def yJ7_copyOf_9075b : MethodName := ⟨RJ7, "copyOf", "([BI)[B"⟩
def RJ8 : String := "jdk/internal/util/ArraysSupport"
def TJ8 : u_T := fun k => match k with
  | _ => ("", "", "", false)
def tyJ8 : Nat → FieldType := fun k => match k with
  | _ => .int
abbrev wsJ80 : List Cond := u_ws RJ8 TJ8 0
theorem nmJ8 : ∀ a, a < 0 → ∀ b, b < 0 → a ≠ b → (TJ8 a).2.1 ≠ (TJ8 b).2.1 := by decide +kernel
theorem tyJ8_ok : ∀ k, k < 0 → parseFieldDescriptor (TJ8 k).2.2.1 = some (tyJ8 k) := by decide +kernel
abbrev cJ8_newLength_cabcc : ByteArray := prog_32_method_27_code
def yJ8_newLength_cabcc : MethodName := ⟨RJ8, "newLength", "(III)I"⟩
abbrev cJ8_hugeLength_7cf53 : ByteArray := prog_32_method_28_code
def yJ8_hugeLength_7cf53 : MethodName := ⟨RJ8, "hugeLength", "(II)I"⟩
def RJ3 : String := "jdk/internal/util/Preconditions"
def TJ3 : u_T := fun k => match k with
  | _ => ("", "", "", false)
def tyJ3 : Nat → FieldType := fun k => match k with
  | _ => .int
abbrev wsJ30 : List Cond := u_ws RJ3 TJ3 0
theorem nmJ3 : ∀ a, a < 0 → ∀ b, b < 0 → a ≠ b → (TJ3 a).2.1 ≠ (TJ3 b).2.1 := by decide +kernel
theorem tyJ3_ok : ∀ k, k < 0 → parseFieldDescriptor (TJ3 k).2.2.1 = some (tyJ3 k) := by decide +kernel
abbrev cJ3_checkIndex_8e157 : ByteArray := prog_33_method_11_code
def yJ3_checkIndex_8e157 : MethodName := ⟨RJ3, "checkIndex", "(IILjava/util/function/BiFunction;)I"⟩
abbrev cJ3_checkFromToIndex_8c36e : ByteArray := prog_33_method_12_code
def yJ3_checkFromToIndex_8c36e : MethodName := ⟨RJ3, "checkFromToIndex", "(IIILjava/util/function/BiFunction;)I"⟩
abbrev cJ3_checkFromIndexSize_8c36e : ByteArray := prog_33_method_13_code
def yJ3_checkFromIndexSize_8c36e : MethodName := ⟨RJ3, "checkFromIndexSize", "(IIILjava/util/function/BiFunction;)I"⟩
def RL : String := "GardenBureauLaw"
abbrev cL_cell : ByteArray := method_2_code
def yL_cell : MethodName := ⟨RL, "cell", "([II)I"⟩
abbrev cL_of : ByteArray := method_3_code
def yL_of : MethodName := ⟨RL, "of", "([IIII)I"⟩
abbrev cL_setPrice : ByteArray := method_4_code
def yL_setPrice : MethodName := ⟨RL, "setPrice", "(LGardenBureau;II)I"⟩
abbrev cL_setRate : ByteArray := method_5_code
def yL_setRate : MethodName := ⟨RL, "setRate", "(LGardenBureau;I)I"⟩
abbrev cL_layBed : ByteArray := method_6_code
def yL_layBed : MethodName := ⟨RL, "layBed", "(LGardenBureau;IIII)I"⟩
abbrev cL_setPeacocks : ByteArray := method_7_code
def yL_setPeacocks : MethodName := ⟨RL, "setPeacocks", "(LGardenBureau;II)I"⟩
abbrev cL_setPause : ByteArray := method_8_code
def yL_setPause : MethodName := ⟨RL, "setPause", "(LGardenBureau;I)I"⟩
abbrev cL_sell : ByteArray := method_9_code
def yL_sell : MethodName := ⟨RL, "sell", "(LGardenBureau;IIII)I"⟩
abbrev cL_extend : ByteArray := method_10_code
def yL_extend : MethodName := ⟨RL, "extend", "(LGardenBureau;II)I"⟩
abbrev cL_addScent : ByteArray := method_11_code
def yL_addScent : MethodName := ⟨RL, "addScent", "(LGardenBureau;II)I"⟩
abbrev cL_reportLost : ByteArray := method_12_code
def yL_reportLost : MethodName := ⟨RL, "reportLost", "(LGardenBureau;I)I"⟩
abbrev cL_replaceCard : ByteArray := method_13_code
def yL_replaceCard : MethodName := ⟨RL, "replaceCard", "(LGardenBureau;I)I"⟩
abbrev cL_refundPass : ByteArray := method_14_code
def yL_refundPass : MethodName := ⟨RL, "refundPass", "(LGardenBureau;I)I"⟩
abbrev cL_visit : ByteArray := method_15_code
def yL_visit : MethodName := ⟨RL, "visit", "(LGardenBureau;II)I"⟩
abbrev cL_pluck : ByteArray := method_16_code
def yL_pluck : MethodName := ⟨RL, "pluck", "(LGardenBureau;II)I"⟩
abbrev cL_payFines : ByteArray := method_17_code
def yL_payFines : MethodName := ⟨RL, "payFines", "(LGardenBureau;II)I"⟩
abbrev cL_pass : ByteArray := method_18_code
def yL_pass : MethodName := ⟨RL, "pass", "(LGardenBureau;I)I"⟩
abbrev cL_blooms : ByteArray := method_20_code
def yL_blooms : MethodName := ⟨RL, "blooms", "(LGardenBureau;I)I"⟩
abbrev cL_placesLeft : ByteArray := method_21_code
def yL_placesLeft : MethodName := ⟨RL, "placesLeft", "(LGardenBureau;I)I"⟩
abbrev cL_visitsTo : ByteArray := method_22_code
def yL_visitsTo : MethodName := ⟨RL, "visitsTo", "(LGardenBureau;I)I"⟩
abbrev cL_isInSeason : ByteArray := method_23_code
def yL_isInSeason : MethodName := ⟨RL, "isInSeason", "(LGardenBureau;I)Z"⟩
abbrev cL_firstDay : ByteArray := method_25_code
def yL_firstDay : MethodName := ⟨RL, "firstDay", "(LGardenBureau;I)I"⟩
abbrev cL_lastDay : ByteArray := method_26_code
def yL_lastDay : MethodName := ⟨RL, "lastDay", "(LGardenBureau;I)I"⟩
abbrev cL_priceOf : ByteArray := method_27_code
def yL_priceOf : MethodName := ⟨RL, "priceOf", "(LGardenBureau;I)I"⟩
abbrev cL_cardOf : ByteArray := method_28_code
def yL_cardOf : MethodName := ⟨RL, "cardOf", "(LGardenBureau;I)I"⟩
abbrev cL_usedDays : ByteArray := method_29_code
def yL_usedDays : MethodName := ⟨RL, "usedDays", "(LGardenBureau;I)I"⟩
abbrev cL_visitsWith : ByteArray := method_30_code
def yL_visitsWith : MethodName := ⟨RL, "visitsWith", "(LGardenBureau;I)I"⟩
abbrev cL_refundOf : ByteArray := method_31_code
def yL_refundOf : MethodName := ⟨RL, "refundOf", "(LGardenBureau;I)I"⟩
abbrev cL_owed : ByteArray := method_32_code
def yL_owed : MethodName := ⟨RL, "owed", "(LGardenBureau;I)I"⟩
abbrev cL_ticksUntilReady : ByteArray := method_33_code
def yL_ticksUntilReady : MethodName := ⟨RL, "ticksUntilReady", "(LGardenBureau;I)I"⟩
abbrev cL_isReturned : ByteArray := method_35_code
def yL_isReturned : MethodName := ⟨RL, "isReturned", "(LGardenBureau;I)Z"⟩
abbrev cL_passOf : ByteArray := method_36_code
def yL_passOf : MethodName := ⟨RL, "passOf", "(LGardenBureau;I)I"⟩
abbrev cL_isBlocked : ByteArray := method_38_code
def yL_isBlocked : MethodName := ⟨RL, "isBlocked", "(LGardenBureau;I)Z"⟩
abbrev cL_whyRefused : ByteArray := method_39_code
def yL_whyRefused : MethodName := ⟨RL, "whyRefused", "(LGardenBureau;II)I"⟩
abbrev cL_began : ByteArray := method_43_code
def yL_began : MethodName := ⟨RL, "began", "(LGardenBureau;[I)I"⟩
abbrev cL_act : ByteArray := method_44_code
def yL_act : MethodName := ⟨RL, "act", "(LGardenBureau;[II)V"⟩
abbrev cL_isSound : ByteArray := method_45_code
def yL_isSound : MethodName := ⟨RL, "isSound", "(LGardenBureau;)Z"⟩
abbrev cL_isGuarded : ByteArray := method_46_code
def yL_isGuarded : MethodName := ⟨RL, "isGuarded", "(LGardenBureau;II)Z"⟩
abbrev cL_seen : ByteArray := method_47_code
def yL_seen : MethodName := ⟨RL, "seen", "(LGardenBureau;)J"⟩
abbrev cL_isAlike : ByteArray := method_48_code
def yL_isAlike : MethodName := ⟨RL, "isAlike", "(LGardenBureau;II)Z"⟩
abbrev cL_law : ByteArray := code
def yL_law : MethodName := ⟨RL, "law", "([I)Z"⟩
abbrev vwCl : List vw_C := [(RX0, TX0, 8), (RX1, TX1, 6), (RX2, TX2, 3), (RX3, TX3, 3), (RX4, TX4, 7), (RX5, TX5, 3), (RX6, TX6, 5), (RX7, TX7, 13), (RX8, TX8, 2), (RX9, TX9, 4), (RX10, TX10, 3), (RX11, TX11, 7), (RJ4, TJ4, 4)]
