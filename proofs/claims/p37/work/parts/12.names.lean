def RX0 : String := "Canticle$Ledger"
def TX0 : u_T := fun k => match k with
  | 0 => ("Canticle$Ledger", "words", "I", false)
  | 1 => ("Canticle$Ledger", "order", "I", false)
  | 2 => ("Canticle$Ledger", "counted", "[LCanticle$Tally;", true)
  | _ => ("Canticle$Ledger", "varied", "[LCanticle$Tally;", true)
def tyX0 : Nat → FieldType := fun k => match k with
  | 0 => .int
  | 1 => .int
  | 2 => .array (.object "Canticle$Tally")
  | _ => .array (.object "Canticle$Tally")
abbrev wsX00 : List Cond := u_ws RX0 TX0 4
theorem nmX0 : ∀ a, a < 4 → ∀ b, b < 4 → a ≠ b → (TX0 a).2.1 ≠ (TX0 b).2.1 := by decide +kernel
theorem tyX0_ok : ∀ k, k < 4 → parseFieldDescriptor (TX0 k).2.2.1 = some (tyX0 k) := by decide +kernel
abbrev cX0_init : ByteArray := prog_2_method_1_code
def yX0_init : MethodName := ⟨RX0, "<init>", "()V"⟩
abbrev cX0_countsOf : ByteArray := prog_2_method_2_code
def yX0_countsOf : MethodName := ⟨RX0, "countsOf", "(I)LCanticle$Tally;"⟩
abbrev cX0_varietyOf : ByteArray := prog_2_method_3_code
def yX0_varietyOf : MethodName := ⟨RX0, "varietyOf", "(I)LCanticle$Tally;"⟩
abbrev cX0_raise : ByteArray := prog_2_method_4_code
def yX0_raise : MethodName := ⟨RX0, "raise", "(III)V"⟩
abbrev cX0_lower : ByteArray := prog_2_method_5_code
def yX0_lower : MethodName := ⟨RX0, "lower", "(III)Z"⟩
abbrev cX0_drop : ByteArray := prog_2_method_6_code
def yX0_drop : MethodName := ⟨RX0, "drop", "(II)V"⟩
abbrev cX0_lowerVariety : ByteArray := prog_2_method_7_code
def yX0_lowerVariety : MethodName := ⟨RX0, "lowerVariety", "(II)V"⟩
abbrev cX0_sizeInAll : ByteArray := prog_2_method_8_code
def yX0_sizeInAll : MethodName := ⟨RX0, "sizeInAll", "()I"⟩
abbrev cX0_forgetAll : ByteArray := prog_2_method_9_code
def yX0_forgetAll : MethodName := ⟨RX0, "forgetAll", "()V"⟩
def RX1 : String := "Canticle$Reckoner"
def TX1 : u_T := fun k => match k with
  | 0 => ("Canticle$Reckoner", "ledger", "LCanticle$Ledger;", true)
  | 1 => ("Canticle$Reckoner", "way", "I", false)
  | 2 => ("Canticle$Reckoner", "number", "I", false)
  | 3 => ("Canticle$Reckoner", "chances", "[I", true)
  | 4 => ("Canticle$Reckoner", "own", "[I", true)
  | 5 => ("Canticle$Reckoner", "sum", "J", false)
  | _ => ("Canticle$Reckoner", "kinds", "I", false)
def tyX1 : Nat → FieldType := fun k => match k with
  | 0 => .object "Canticle$Ledger"
  | 1 => .int
  | 2 => .int
  | 3 => .array .int
  | 4 => .array .int
  | 5 => .long
  | _ => .int
abbrev wsX10 : List Cond := u_ws RX1 TX1 7
theorem nmX1 : ∀ a, a < 7 → ∀ b, b < 7 → a ≠ b → (TX1 a).2.1 ≠ (TX1 b).2.1 := by decide +kernel
theorem tyX1_ok : ∀ k, k < 7 → parseFieldDescriptor (TX1 k).2.2.1 = some (tyX1 k) := by decide +kernel
abbrev cX1_init : ByteArray := prog_3_method_1_code
def yX1_init : MethodName := ⟨RX1, "<init>", "(LCanticle$Ledger;)V"⟩
abbrev cX1_reckon : ByteArray := prog_3_method_2_code
def yX1_reckon : MethodName := ⟨RX1, "reckon", "(II)V"⟩
abbrev cX1_refine : ByteArray := prog_3_method_3_code
def yX1_refine : MethodName := ⟨RX1, "refine", "(II)V"⟩
abbrev cX1_gather : ByteArray := prog_3_method_4_code
def yX1_gather : MethodName := ⟨RX1, "gather", "(LCanticle$Tally;I)V"⟩
abbrev cX1_blend : ByteArray := prog_3_method_5_code
def yX1_blend : MethodName := ⟨RX1, "blend", "(JJ)J"⟩
abbrev cX1_isLikelier : ByteArray := prog_3_method_6_code
def yX1_isLikelier : MethodName := ⟨RX1, "isLikelier", "(II)Z"⟩
abbrev cX1_rankOf : ByteArray := prog_3_method_7_code
def yX1_rankOf : MethodName := ⟨RX1, "rankOf", "(I)I"⟩
abbrev cX1_withRank : ByteArray := prog_3_method_8_code
def yX1_withRank : MethodName := ⟨RX1, "withRank", "(I)I"⟩
abbrev cX1_likeliest : ByteArray := prog_3_method_9_code
def yX1_likeliest : MethodName := ⟨RX1, "likeliest", "(I)I"⟩
abbrev cX1_pick : ByteArray := prog_3_method_10_code
def yX1_pick : MethodName := ⟨RX1, "pick", "(II)I"⟩
def RX2 : String := "Canticle$Script"
def TX2 : u_T := fun k => match k with
  | 0 => ("Canticle$Script", "codes", "[I", true)
  | 1 => ("Canticle$Script", "numbers", "[I", true)
  | 2 => ("Canticle$Script", "returns", "[I", true)
  | _ => ("Canticle$Script", "size", "I", false)
def tyX2 : Nat → FieldType := fun k => match k with
  | 0 => .array .int
  | 1 => .array .int
  | 2 => .array .int
  | _ => .int
abbrev wsX20 : List Cond := u_ws RX2 TX2 4
theorem nmX2 : ∀ a, a < 4 → ∀ b, b < 4 → a ≠ b → (TX2 a).2.1 ≠ (TX2 b).2.1 := by decide +kernel
theorem tyX2_ok : ∀ k, k < 4 → parseFieldDescriptor (TX2 k).2.2.1 = some (tyX2 k) := by decide +kernel
abbrev cX2_init : ByteArray := prog_4_method_1_code
def yX2_init : MethodName := ⟨RX2, "<init>", "()V"⟩
abbrev cX2_append : ByteArray := prog_4_method_2_code
def yX2_append : MethodName := ⟨RX2, "append", "(II)I"⟩
abbrev cX2_forgetReturns : ByteArray := prog_4_method_3_code
def yX2_forgetReturns : MethodName := ⟨RX2, "forgetReturns", "()V"⟩
abbrev cX2_placeBehindReturn : ByteArray := prog_4_method_4_code
def yX2_placeBehindReturn : MethodName := ⟨RX2, "placeBehindReturn", "(I)I"⟩
def RX3 : String := "Canticle$Search"
def TX3 : u_T := fun k => match k with
  | 0 => ("Canticle$Search", "ledger", "LCanticle$Ledger;", true)
  | 1 => ("Canticle$Search", "reckoner", "LCanticle$Reckoner;", true)
  | 2 => ("Canticle$Search", "costs", "[I", true)
  | 3 => ("Canticle$Search", "choices", "[[I", true)
  | 4 => ("Canticle$Search", "least", "[I", false)
  | _ => ("Canticle$Search", "leastBehind", "[I", false)
def tyX3 : Nat → FieldType := fun k => match k with
  | 0 => .object "Canticle$Ledger"
  | 1 => .object "Canticle$Reckoner"
  | 2 => .array .int
  | 3 => .array (.array .int)
  | 4 => .array .int
  | _ => .array .int
abbrev wsX30 : List Cond := u_ws RX3 TX3 6
theorem nmX3 : ∀ a, a < 6 → ∀ b, b < 6 → a ≠ b → (TX3 a).2.1 ≠ (TX3 b).2.1 := by decide +kernel
theorem tyX3_ok : ∀ k, k < 6 → parseFieldDescriptor (TX3 k).2.2.1 = some (tyX3 k) := by decide +kernel
abbrev cX3_init : ByteArray := prog_5_method_1_code
def yX3_init : MethodName := ⟨RX3, "<init>", "(LCanticle$Ledger;LCanticle$Reckoner;)V"⟩
abbrev cX3_choose : ByteArray := prog_5_method_2_code
def yX3_choose : MethodName := ⟨RX3, "choose", "(II)V"⟩
abbrev cX3_choiceAt : ByteArray := prog_5_method_3_code
def yX3_choiceAt : MethodName := ⟨RX3, "choiceAt", "(II)I"⟩
abbrev cX3_stateBehind : ByteArray := prog_5_method_4_code
def yX3_stateBehind : MethodName := ⟨RX3, "stateBehind", "(III)I"⟩
abbrev cX3_placesAt : ByteArray := prog_5_method_5_code
def yX3_placesAt : MethodName := ⟨RX3, "placesAt", "(I)I"⟩
abbrev cX3_statesAt : ByteArray := prog_5_method_6_code
def yX3_statesAt : MethodName := ⟨RX3, "statesAt", "(I)I"⟩
abbrev cX3_fillCosts : ByteArray := prog_5_method_7_code
def yX3_fillCosts : MethodName := ⟨RX3, "fillCosts", "(II)V"⟩
abbrev cX3_keyOf : ByteArray := prog_5_method_8_code
def yX3_keyOf : MethodName := ⟨RX3, "keyOf", "(II)I"⟩
abbrev cX3_chooseAt : ByteArray := prog_5_method_9_code
def yX3_chooseAt : MethodName := ⟨RX3, "chooseAt", "(I)V"⟩
def RX4 : String := "Canticle$Tally"
def TX4 : u_T := fun k => match k with
  | 0 => ("Canticle$Tally", "keys", "[I", true)
  | 1 => ("Canticle$Tally", "counts", "[I", true)
  | _ => ("Canticle$Tally", "size", "I", false)
def tyX4 : Nat → FieldType := fun k => match k with
  | 0 => .array .int
  | 1 => .array .int
  | _ => .int
abbrev wsX40 : List Cond := u_ws RX4 TX4 3
theorem nmX4 : ∀ a, a < 3 → ∀ b, b < 3 → a ≠ b → (TX4 a).2.1 ≠ (TX4 b).2.1 := by decide +kernel
theorem tyX4_ok : ∀ k, k < 3 → parseFieldDescriptor (TX4 k).2.2.1 = some (tyX4 k) := by decide +kernel
abbrev cX4_init : ByteArray := prog_6_method_1_code
def yX4_init : MethodName := ⟨RX4, "<init>", "()V"⟩
abbrev cX4_keysBelow : ByteArray := prog_6_method_2_code
def yX4_keysBelow : MethodName := ⟨RX4, "keysBelow", "(I)I"⟩
abbrev cX4_standsAt : ByteArray := prog_6_method_3_code
def yX4_standsAt : MethodName := ⟨RX4, "standsAt", "(II)Z"⟩
abbrev cX4_numberOf : ByteArray := prog_6_method_4_code
def yX4_numberOf : MethodName := ⟨RX4, "numberOf", "(I)I"⟩
abbrev cX4_raise : ByteArray := prog_6_method_5_code
def yX4_raise : MethodName := ⟨RX4, "raise", "(II)Z"⟩
abbrev cX4_lower : ByteArray := prog_6_method_6_code
def yX4_lower : MethodName := ⟨RX4, "lower", "(II)Z"⟩
abbrev cX4_removeAt : ByteArray := prog_6_method_7_code
def yX4_removeAt : MethodName := ⟨RX4, "removeAt", "(I)V"⟩
def RX5 : String := "Canticle"
def TX5 : u_T := fun k => match k with
  | 0 => ("Canticle", "ledger", "LCanticle$Ledger;", true)
  | 1 => ("Canticle", "reckoner", "LCanticle$Reckoner;", true)
  | 2 => ("Canticle", "search", "LCanticle$Search;", true)
  | 3 => ("Canticle", "script", "LCanticle$Script;", true)
  | 4 => ("Canticle", "doomed", "[Z", true)
  | 5 => ("Canticle", "sentence", "[I", true)
  | 6 => ("Canticle", "length", "I", false)
  | 7 => ("Canticle", "luck", "I", false)
  | 8 => ("Canticle", "draws", "I", false)
  | _ => ("Canticle", "ended", "Z", false)
def tyX5 : Nat → FieldType := fun k => match k with
  | 0 => .object "Canticle$Ledger"
  | 1 => .object "Canticle$Reckoner"
  | 2 => .object "Canticle$Search"
  | 3 => .object "Canticle$Script"
  | 4 => .array .boolean
  | 5 => .array .int
  | 6 => .int
  | 7 => .int
  | 8 => .int
  | _ => .boolean
abbrev wsX50 : List Cond := u_ws RX5 TX5 10
theorem nmX5 : ∀ a, a < 10 → ∀ b, b < 10 → a ≠ b → (TX5 a).2.1 ≠ (TX5 b).2.1 := by decide +kernel
theorem tyX5_ok : ∀ k, k < 10 → parseFieldDescriptor (TX5 k).2.2.1 = some (tyX5 k) := by decide +kernel
abbrev cX5_init : ByteArray := prog_1_method_1_code
def yX5_init : MethodName := ⟨RX5, "<init>", "()V"⟩
abbrev cX5_addWord : ByteArray := prog_1_method_2_code
def yX5_addWord : MethodName := ⟨RX5, "addWord", "()I"⟩
abbrev cX5_setOrder : ByteArray := prog_1_method_3_code
def yX5_setOrder : MethodName := ⟨RX5, "setOrder", "(I)I"⟩
abbrev cX5_say : ByteArray := prog_1_method_4_code
def yX5_say : MethodName := ⟨RX5, "say", "(I)I"⟩
abbrev cX5_hush : ByteArray := prog_1_method_5_code
def yX5_hush : MethodName := ⟨RX5, "hush", "()I"⟩
abbrev cX5_learn : ByteArray := prog_1_method_6_code
def yX5_learn : MethodName := ⟨RX5, "learn", "(I)I"⟩
abbrev cX5_unlearn : ByteArray := prog_1_method_7_code
def yX5_unlearn : MethodName := ⟨RX5, "unlearn", "()I"⟩
abbrev cX5_length : ByteArray := prog_1_method_10_code
def yX5_length : MethodName := ⟨RX5, "length", "()I"⟩
abbrev cX5_wordAt : ByteArray := prog_1_method_11_code
def yX5_wordAt : MethodName := ⟨RX5, "wordAt", "(I)I"⟩
abbrev cX5_entries : ByteArray := prog_1_method_12_code
def yX5_entries : MethodName := ⟨RX5, "entries", "(I)I"⟩
abbrev cX5_ofContext : ByteArray := prog_1_method_15_code
def yX5_ofContext : MethodName := ⟨RX5, "ofContext", "(II)I"⟩
abbrev cX5_prune : ByteArray := prog_1_method_16_code
def yX5_prune : MethodName := ⟨RX5, "prune", "(II)I"⟩
abbrev cX5_setWay : ByteArray := prog_1_method_18_code
def yX5_setWay : MethodName := ⟨RX5, "setWay", "(II)I"⟩
abbrev cX5_chance : ByteArray := prog_1_method_19_code
def yX5_chance : MethodName := ⟨RX5, "chance", "(I)I"⟩
abbrev cX5_ranked : ByteArray := prog_1_method_20_code
def yX5_ranked : MethodName := ⟨RX5, "ranked", "(I)I"⟩
abbrev cX5_costOf : ByteArray := prog_1_method_21_code
def yX5_costOf : MethodName := ⟨RX5, "costOf", "(I)I"⟩
abbrev cX5_score : ByteArray := prog_1_method_22_code
def yX5_score : MethodName := ⟨RX5, "score", "()I"⟩
abbrev cX5_meanCost : ByteArray := prog_1_method_23_code
def yX5_meanCost : MethodName := ⟨RX5, "meanCost", "()D"⟩
abbrev cX5_complete : ByteArray := prog_1_method_24_code
def yX5_complete : MethodName := ⟨RX5, "complete", "(I)I"⟩
abbrev cX5_addStep : ByteArray := prog_1_method_26_code
def yX5_addStep : MethodName := ⟨RX5, "addStep", "(II)I"⟩
abbrev cX5_runScript : ByteArray := prog_1_method_28_code
def yX5_runScript : MethodName := ⟨RX5, "runScript", "()I"⟩
abbrev cX5_hasEnded : ByteArray := prog_1_method_29_code
def yX5_hasEnded : MethodName := ⟨RX5, "hasEnded", "()Z"⟩
abbrev cX5_scoreLearned : ByteArray := prog_1_method_32_code
def yX5_scoreLearned : MethodName := ⟨RX5, "scoreLearned", "(I)I"⟩
abbrev cX5_scoreBy : ByteArray := prog_1_method_33_code
def yX5_scoreBy : MethodName := ⟨RX5, "scoreBy", "(II)I"⟩
abbrev cX5_wouldDraw : ByteArray := prog_1_method_34_code
def yX5_wouldDraw : MethodName := ⟨RX5, "wouldDraw", "()I"⟩
abbrev cX5_digest : ByteArray := prog_1_method_35_code
def yX5_digest : MethodName := ⟨RX5, "digest", "()J"⟩
abbrev cX5_isWord : ByteArray := prog_1_method_36_code
def yX5_isWord : MethodName := ⟨RX5, "isWord", "(I)Z"⟩
abbrev cX5_isOrder : ByteArray := prog_1_method_37_code
def yX5_isOrder : MethodName := ⟨RX5, "isOrder", "(I)Z"⟩
abbrev cX5_isWay : ByteArray := prog_1_method_38_code
def yX5_isWay : MethodName := ⟨RX5, "isWay", "(II)Z"⟩
abbrev cX5_isStep : ByteArray := prog_1_method_39_code
def yX5_isStep : MethodName := ⟨RX5, "isStep", "(II)Z"⟩
abbrev cX5_append : ByteArray := prog_1_method_40_code
def yX5_append : MethodName := ⟨RX5, "append", "(I)V"⟩
abbrev cX5_digitAt : ByteArray := prog_1_method_41_code
def yX5_digitAt : MethodName := ⟨RX5, "digitAt", "(I)I"⟩
abbrev cX5_keyUpTo : ByteArray := prog_1_method_42_code
def yX5_keyUpTo : MethodName := ⟨RX5, "keyUpTo", "(II)I"⟩
abbrev cX5_addSentence : ByteArray := prog_1_method_43_code
def yX5_addSentence : MethodName := ⟨RX5, "addSentence", "(I)V"⟩
abbrev cX5_takeSentence : ByteArray := prog_1_method_44_code
def yX5_takeSentence : MethodName := ⟨RX5, "takeSentence", "(I)I"⟩
abbrev cX5_canTakeSentence : ByteArray := prog_1_method_45_code
def yX5_canTakeSentence : MethodName := ⟨RX5, "canTakeSentence", "()Z"⟩
abbrev cX5_timesInSentence : ByteArray := prog_1_method_46_code
def yX5_timesInSentence : MethodName := ⟨RX5, "timesInSentence", "(II)I"⟩
abbrev cX5_partOf : ByteArray := prog_1_method_47_code
def yX5_partOf : MethodName := ⟨RX5, "partOf", "(III)I"⟩
abbrev cX5_totalBehind : ByteArray := prog_1_method_48_code
def yX5_totalBehind : MethodName := ⟨RX5, "totalBehind", "(II)I"⟩
abbrev cX5_dropDoomed : ByteArray := prog_1_method_50_code
def yX5_dropDoomed : MethodName := ⟨RX5, "dropDoomed", "(I)I"⟩
abbrev cX5_cost : ByteArray := prog_1_method_51_code
def yX5_cost : MethodName := ⟨RX5, "cost", "(I)I"⟩
abbrev cX5_sumOfCosts : ByteArray := prog_1_method_52_code
def yX5_sumOfCosts : MethodName := ⟨RX5, "sumOfCosts", "()I"⟩
abbrev cX5_reckonBehindSentence : ByteArray := prog_1_method_53_code
def yX5_reckonBehindSentence : MethodName := ⟨RX5, "reckonBehindSentence", "()V"⟩
abbrev cX5_luckBehind : ByteArray := prog_1_method_54_code
def yX5_luckBehind : MethodName := ⟨RX5, "luckBehind", "(I)I"⟩
abbrev cX5_allOutcomes : ByteArray := prog_1_method_55_code
def yX5_allOutcomes : MethodName := ⟨RX5, "allOutcomes", "()I"⟩
abbrev cX5_draw : ByteArray := prog_1_method_56_code
def yX5_draw : MethodName := ⟨RX5, "draw", "(I)I"⟩
abbrev cX5_takeByStep : ByteArray := prog_1_method_57_code
def yX5_takeByStep : MethodName := ⟨RX5, "takeByStep", "(II)V"⟩
abbrev cX5_outcomeOf : ByteArray := prog_1_method_58_code
def yX5_outcomeOf : MethodName := ⟨RX5, "outcomeOf", "(II)I"⟩
abbrev cX5_mix : ByteArray := prog_1_method_59_code
def yX5_mix : MethodName := ⟨RX5, "mix", "(JJ)J"⟩
abbrev cX5_mixEntries : ByteArray := prog_1_method_60_code
def yX5_mixEntries : MethodName := ⟨RX5, "mixEntries", "(JI)J"⟩
abbrev cX5_mixChances : ByteArray := prog_1_method_61_code
def yX5_mixChances : MethodName := ⟨RX5, "mixChances", "(J)J"⟩
def RX6 : String := "CanticleLaw$Own"
def TX6 : u_T := fun k => match k with
  | 0 => ("CanticleLaw$Own", "words", "I", true)
  | 1 => ("CanticleLaw$Own", "order", "I", true)
  | 2 => ("CanticleLaw$Own", "rows", "[[I", false)
  | _ => ("CanticleLaw$Own", "times", "[I", false)
def tyX6 : Nat → FieldType := fun k => match k with
  | 0 => .int
  | 1 => .int
  | 2 => .array (.array .int)
  | _ => .array .int
abbrev wsX60 : List Cond := u_ws RX6 TX6 4
theorem nmX6 : ∀ a, a < 4 → ∀ b, b < 4 → a ≠ b → (TX6 a).2.1 ≠ (TX6 b).2.1 := by decide +kernel
theorem tyX6_ok : ∀ k, k < 4 → parseFieldDescriptor (TX6 k).2.2.1 = some (tyX6 k) := by decide +kernel
abbrev cX6_init : ByteArray := prog_8_method_1_code
def yX6_init : MethodName := ⟨RX6, "<init>", "(II)V"⟩
abbrev cX6_row : ByteArray := prog_8_method_2_code
def yX6_row : MethodName := ⟨RX6, "row", "([IIII)[I"⟩
abbrev cX6_find : ByteArray := prog_8_method_3_code
def yX6_find : MethodName := ⟨RX6, "find", "([I)I"⟩
abbrev cX6_isSame : ByteArray := prog_8_method_4_code
def yX6_isSame : MethodName := ⟨RX6, "isSame", "([I[I)Z"⟩
abbrev cX6_add : ByteArray := prog_8_method_5_code
def yX6_add : MethodName := ⟨RX6, "add", "([II)V"⟩
abbrev cX6_learn : ByteArray := prog_8_method_6_code
def yX6_learn : MethodName := ⟨RX6, "learn", "([III)V"⟩
def RX7 : String := "CanticleModel"
def TX7 : u_T := fun k => match k with
  | _ => ("", "", "", false)
def tyX7 : Nat → FieldType := fun k => match k with
  | _ => .int
abbrev wsX70 : List Cond := u_ws RX7 TX7 0
theorem nmX7 : ∀ a, a < 0 → ∀ b, b < 0 → a ≠ b → (TX7 a).2.1 ≠ (TX7 b).2.1 := by decide +kernel
theorem tyX7_ok : ∀ k, k < 0 → parseFieldDescriptor (TX7 k).2.2.1 = some (tyX7 k) := by decide +kernel
def RJx145de : String := "java/io/Serializable"
def TJx145de : u_T := fun k => match k with
  | _ => ("", "", "", false)
def tyJx145de : Nat → FieldType := fun k => match k with
  | _ => .int
abbrev wsJx145de0 : List Cond := u_ws RJx145de TJx145de 0
theorem nmJx145de : ∀ a, a < 0 → ∀ b, b < 0 → a ≠ b → (TJx145de a).2.1 ≠ (TJx145de b).2.1 := by decide +kernel
theorem tyJx145de_ok : ∀ k, k < 0 → parseFieldDescriptor (TJx145de k).2.2.1 = some (tyJx145de k) := by decide +kernel
def RJ9 : String := "java/lang/Math"
def TJ9 : u_T := fun k => match k with
  | _ => ("", "", "", false)
def tyJ9 : Nat → FieldType := fun k => match k with
  | _ => .int
abbrev wsJ90 : List Cond := u_ws RJ9 TJ9 0
theorem nmJ9 : ∀ a, a < 0 → ∀ b, b < 0 → a ≠ b → (TJ9 a).2.1 ≠ (TJ9 b).2.1 := by decide +kernel
theorem tyJ9_ok : ∀ k, k < 0 → parseFieldDescriptor (TJ9 k).2.2.1 = some (tyJ9 k) := by decide +kernel
abbrev cJ9_max_7cf53 : ByteArray := prog_14_method_65_code
def yJ9_max_7cf53 : MethodName := ⟨RJ9, "max", "(II)I"⟩
abbrev cJ9_max_f86c9 : ByteArray := prog_14_method_66_code
def yJ9_max_f86c9 : MethodName := ⟨RJ9, "max", "(JJ)J"⟩
abbrev cJ9_min_7cf53 : ByteArray := prog_14_method_69_code
def yJ9_min_7cf53 : MethodName := ⟨RJ9, "min", "(II)I"⟩
def RJ0 : String := "java/lang/String"
def TJ0 : u_T := fun k => match k with
  | _ => ("", "", "", false)
def tyJ0 : Nat → FieldType := fun k => match k with
  | _ => .int
abbrev wsJ00 : List Cond := u_ws RJ0 TJ0 0
theorem nmJ0 : ∀ a, a < 0 → ∀ b, b < 0 → a ≠ b → (TJ0 a).2.1 ≠ (TJ0 b).2.1 := by decide +kernel
theorem tyJ0_ok : ∀ k, k < 0 → parseFieldDescriptor (TJ0 k).2.2.1 = some (tyJ0 k) := by decide +kernel
def RJ10 : String := "java/lang/System"
def TJ10 : u_T := fun k => match k with
  | _ => ("", "", "", false)
def tyJ10 : Nat → FieldType := fun k => match k with
  | _ => .int
abbrev wsJ100 : List Cond := u_ws RJ10 TJ10 0
theorem nmJ10 : ∀ a, a < 0 → ∀ b, b < 0 → a ≠ b → (TJ10 a).2.1 ≠ (TJ10 b).2.1 := by decide +kernel
theorem tyJ10_ok : ∀ k, k < 0 → parseFieldDescriptor (TJ10 k).2.2.1 = some (tyJ10 k) := by decide +kernel
def RJ7 : String := "java/util/Arrays"
def TJ7 : u_T := fun k => match k with
  | _ => ("", "", "", false)
def tyJ7 : Nat → FieldType := fun k => match k with
  | _ => .int
abbrev wsJ70 : List Cond := u_ws RJ7 TJ7 0
theorem nmJ7 : ∀ a, a < 0 → ∀ b, b < 0 → a ≠ b → (TJ7 a).2.1 ≠ (TJ7 b).2.1 := by decide +kernel
theorem tyJ7_ok : ∀ k, k < 0 → parseFieldDescriptor (TJ7 k).2.2.1 = some (tyJ7 k) := by decide +kernel
abbrev cJ7_fill_53178 : ByteArray := prog_19_method_103_code
def yJ7_fill_53178 : MethodName := ⟨RJ7, "fill", "([II)V"⟩
def RL : String := "CanticleLaw"
abbrev cL_below : ByteArray := method_2_code
def yL_below : MethodName := ⟨RL, "below", "(II)I"⟩
abbrev cL_cell : ByteArray := method_3_code
def yL_cell : MethodName := ⟨RL, "cell", "([II)I"⟩
abbrev cL_build : ByteArray := method_4_code
def yL_build : MethodName := ⟨RL, "build", "(LCanticle;[I)LCanticleLaw$Own;"⟩
abbrev cL_sentence : ByteArray := method_5_code
def yL_sentence : MethodName := ⟨RL, "sentence", "(LCanticle;[III)[I"⟩
abbrev cL_law : ByteArray := code
def yL_law : MethodName := ⟨RL, "law", "([I)Z"⟩
abbrev vwCl : List vw_C := [(RX0, TX0, 4), (RX1, TX1, 7), (RX2, TX2, 4), (RX3, TX3, 6), (RX4, TX4, 3), (RX5, TX5, 10), (RX6, TX6, 4)]
