/-! ===== BEGIN words of one list among another's, by their places ===== -/
/-! ===== END ===== -/

/-! ===== BEGIN printed: names, fields, word lists, decode rows ===== -/
def RX0 : String := "TuningTables$Division"
def TX0 : u_T := fun k => match k with
  | 0 => ("TuningTables$Division", "first", "LTuningTables$Note;", true)
  | _ => ("TuningTables$Division", "second", "LTuningTables$Note;", true)
def tyX0 : Nat → FieldType := fun k => match k with
  | 0 => .object "TuningTables$Note"
  | _ => .object "TuningTables$Note"
abbrev wsX00 : List Cond := u_ws RX0 TX0 2
theorem nmX0 : ∀ a, a < 2 → ∀ b, b < 2 → a ≠ b → (TX0 a).2.1 ≠ (TX0 b).2.1 := by decide +kernel
theorem tyX0_ok : ∀ k, k < 2 → parseFieldDescriptor (TX0 k).2.2.1 = some (tyX0 k) := by decide +kernel
abbrev cX0_init : ByteArray := prog_2_method_1_code
def yX0_init : MethodName := ⟨RX0, "<init>", "()V"⟩
abbrev cX0_termAt : ByteArray := prog_2_method_2_code
def yX0_termAt : MethodName := ⟨RX0, "termAt", "(LTuningTables$Note;LTuningTables$Note;I)I"⟩
abbrev cX0_takeTerm : ByteArray := prog_2_method_3_code
def yX0_takeTerm : MethodName := ⟨RX0, "takeTerm", "(LTuningTables$Note;LTuningTables$Note;)I"⟩
def RX1 : String := "TuningTables$Note"
def TX1 : u_T := fun k => match k with
  | 0 => ("TuningTables$Note", "exponents", "[I", true)
  | 1 => ("TuningTables$Note", "high", "J", false)
  | 2 => ("TuningTables$Note", "middle", "J", false)
  | _ => ("TuningTables$Note", "low", "J", false)
def tyX1 : Nat → FieldType := fun k => match k with
  | 0 => .array .int
  | 1 => .long
  | 2 => .long
  | _ => .long
abbrev wsX10 : List Cond := u_ws RX1 TX1 4
theorem nmX1 : ∀ a, a < 4 → ∀ b, b < 4 → a ≠ b → (TX1 a).2.1 ≠ (TX1 b).2.1 := by decide +kernel
theorem tyX1_ok : ∀ k, k < 4 → parseFieldDescriptor (TX1 k).2.2.1 = some (tyX1 k) := by decide +kernel
abbrev cX1_init : ByteArray := prog_3_method_1_code
def yX1_init : MethodName := ⟨RX1, "<init>", "()V"⟩
abbrev cX1_clear : ByteArray := prog_3_method_2_code
def yX1_clear : MethodName := ⟨RX1, "clear", "()V"⟩
abbrev cX1_copyFrom : ByteArray := prog_3_method_3_code
def yX1_copyFrom : MethodName := ⟨RX1, "copyFrom", "(LTuningTables$Note;)V"⟩
abbrev cX1_addPrime : ByteArray := prog_3_method_4_code
def yX1_addPrime : MethodName := ⟨RX1, "addPrime", "(II)V"⟩
abbrev cX1_addTimes : ByteArray := prog_3_method_5_code
def yX1_addTimes : MethodName := ⟨RX1, "addTimes", "(LTuningTables$Note;I)V"⟩
abbrev cX1_carry : ByteArray := prog_3_method_6_code
def yX1_carry : MethodName := ⟨RX1, "carry", "()V"⟩
abbrev cX1_isUnison : ByteArray := prog_3_method_7_code
def yX1_isUnison : MethodName := ⟨RX1, "isUnison", "()Z"⟩
abbrev cX1_isAboveUnison : ByteArray := prog_3_method_8_code
def yX1_isAboveUnison : MethodName := ⟨RX1, "isAboveUnison", "()Z"⟩
abbrev cX1_isBelow : ByteArray := prog_3_method_9_code
def yX1_isBelow : MethodName := ⟨RX1, "isBelow", "(LTuningTables$Note;I)Z"⟩
abbrev cX1_isWide : ByteArray := prog_3_method_10_code
def yX1_isWide : MethodName := ⟨RX1, "isWide", "()Z"⟩
abbrev cX1_timesOf : ByteArray := prog_3_method_11_code
def yX1_timesOf : MethodName := ⟨RX1, "timesOf", "(LTuningTables$Note;)I"⟩
abbrev cX1_timesBetween : ByteArray := prog_3_method_12_code
def yX1_timesBetween : MethodName := ⟨RX1, "timesBetween", "(LTuningTables$Note;II)I"⟩
def RX2 : String := "TuningTables$Parts"
def TX2 : u_T := fun k => match k with
  | 0 => ("TuningTables$Parts", "period", "LTuningTables$Note;", true)
  | 1 => ("TuningTables$Parts", "divided", "LTuningTables$Note;", true)
  | 2 => ("TuningTables$Parts", "divisor", "LTuningTables$Note;", true)
  | 3 => ("TuningTables$Parts", "single", "LTuningTables$Note;", true)
  | _ => ("TuningTables$Parts", "kept", "[I", true)
def tyX2 : Nat → FieldType := fun k => match k with
  | 0 => .object "TuningTables$Note"
  | 1 => .object "TuningTables$Note"
  | 2 => .object "TuningTables$Note"
  | 3 => .object "TuningTables$Note"
  | _ => .array .int
abbrev wsX20 : List Cond := u_ws RX2 TX2 5
theorem nmX2 : ∀ a, a < 5 → ∀ b, b < 5 → a ≠ b → (TX2 a).2.1 ≠ (TX2 b).2.1 := by decide +kernel
theorem tyX2_ok : ∀ k, k < 5 → parseFieldDescriptor (TX2 k).2.2.1 = some (tyX2 k) := by decide +kernel
abbrev cX2_init : ByteArray := prog_4_method_1_code
def yX2_init : MethodName := ⟨RX2, "<init>", "(LTuningTables$Note;)V"⟩
abbrev cX2_forget : ByteArray := prog_4_method_2_code
def yX2_forget : MethodName := ⟨RX2, "forget", "()V"⟩
abbrev cX2_nearest : ByteArray := prog_4_method_3_code
def yX2_nearest : MethodName := ⟨RX2, "nearest", "(LTuningTables$Note;I)I"⟩
abbrev cX2_nearestToPrime : ByteArray := prog_4_method_4_code
def yX2_nearestToPrime : MethodName := ⟨RX2, "nearestToPrime", "(II)I"⟩
abbrev cX2_sum : ByteArray := prog_4_method_5_code
def yX2_sum : MethodName := ⟨RX2, "sum", "(LTuningTables$Note;I)I"⟩
abbrev cX2_leastThatMakesNothing : ByteArray := prog_4_method_6_code
def yX2_leastThatMakesNothing : MethodName := ⟨RX2, "leastThatMakesNothing", "(LTuningTables$Note;)I"⟩
def RX3 : String := "TuningTables$Scale"
def TX3 : u_T := fun k => match k with
  | 0 => ("TuningTables$Scale", "steps", "[LTuningTables$Note;", true)
  | 1 => ("TuningTables$Scale", "reduced", "[LTuningTables$Note;", true)
  | 2 => ("TuningTables$Scale", "taken", "[I", true)
  | 3 => ("TuningTables$Scale", "sorted", "[I", true)
  | 4 => ("TuningTables$Scale", "period", "LTuningTables$Note;", true)
  | 5 => ("TuningTables$Scale", "link", "LTuningTables$Note;", true)
  | 6 => ("TuningTables$Scale", "sum", "LTuningTables$Note;", true)
  | _ => ("TuningTables$Scale", "count", "I", false)
def tyX3 : Nat → FieldType := fun k => match k with
  | 0 => .array (.object "TuningTables$Note")
  | 1 => .array (.object "TuningTables$Note")
  | 2 => .array .int
  | 3 => .array .int
  | 4 => .object "TuningTables$Note"
  | 5 => .object "TuningTables$Note"
  | 6 => .object "TuningTables$Note"
  | _ => .int
abbrev wsX30 : List Cond := u_ws RX3 TX3 8
theorem nmX3 : ∀ a, a < 8 → ∀ b, b < 8 → a ≠ b → (TX3 a).2.1 ≠ (TX3 b).2.1 := by decide +kernel
theorem tyX3_ok : ∀ k, k < 8 → parseFieldDescriptor (TX3 k).2.2.1 = some (tyX3 k) := by decide +kernel
abbrev cX3_init : ByteArray := prog_5_method_1_code
def yX3_init : MethodName := ⟨RX3, "<init>", "()V"⟩
abbrev cX3_noteAt : ByteArray := prog_5_method_2_code
def yX3_noteAt : MethodName := ⟨RX3, "noteAt", "(I)LTuningTables$Note;"⟩
abbrev cX3_take : ByteArray := prog_5_method_3_code
def yX3_take : MethodName := ⟨RX3, "take", "(LTuningTables$Text;)V"⟩
abbrev cX3_setNote : ByteArray := prog_5_method_4_code
def yX3_setNote : MethodName := ⟨RX3, "setNote", "(LTuningTables$Note;[II)V"⟩
abbrev cX3_becomeChain : ByteArray := prog_5_method_5_code
def yX3_becomeChain : MethodName := ⟨RX3, "becomeChain", "(I)V"⟩
abbrev cX3_sinkStep : ByteArray := prog_5_method_6_code
def yX3_sinkStep : MethodName := ⟨RX3, "sinkStep", "(I)V"⟩
abbrev cX3_arrange : ByteArray := prog_5_method_7_code
def yX3_arrange : MethodName := ⟨RX3, "arrange", "()V"⟩
abbrev cX3_sinkSorted : ByteArray := prog_5_method_8_code
def yX3_sinkSorted : MethodName := ⟨RX3, "sinkSorted", "(I)V"⟩
abbrev cX3_gapExponent : ByteArray := prog_5_method_9_code
def yX3_gapExponent : MethodName := ⟨RX3, "gapExponent", "(II)I"⟩
abbrev cX3_differentGaps : ByteArray := prog_5_method_10_code
def yX3_differentGaps : MethodName := ⟨RX3, "differentGaps", "()I"⟩
abbrev cX3_isGapBefore : ByteArray := prog_5_method_11_code
def yX3_isGapBefore : MethodName := ⟨RX3, "isGapBefore", "(I)Z"⟩
abbrev cX3_areSameGaps : ByteArray := prog_5_method_12_code
def yX3_areSameGaps : MethodName := ⟨RX3, "areSameGaps", "(II)Z"⟩
def RX4 : String := "TuningTables$Text"
def TX4 : u_T := fun k => match k with
  | 0 => ("TuningTables$Text", "bytes", "[B", true)
  | 1 => ("TuningTables$Text", "pitches", "[I", true)
  | 2 => ("TuningTables$Text", "length", "I", false)
  | 3 => ("TuningTables$Text", "count", "I", false)
  | 4 => ("TuningTables$Text", "fault", "I", false)
  | 5 => ("TuningTables$Text", "place", "I", false)
  | 6 => ("TuningTables$Text", "state", "I", false)
  | 7 => ("TuningTables$Text", "tokenEnd", "I", false)
  | _ => ("TuningTables$Text", "pitchPlace", "I", false)
def tyX4 : Nat → FieldType := fun k => match k with
  | 0 => .array .byte
  | 1 => .array .int
  | 2 => .int
  | 3 => .int
  | 4 => .int
  | 5 => .int
  | 6 => .int
  | 7 => .int
  | _ => .int
abbrev wsX40 : List Cond := u_ws RX4 TX4 9
theorem nmX4 : ∀ a, a < 9 → ∀ b, b < 9 → a ≠ b → (TX4 a).2.1 ≠ (TX4 b).2.1 := by decide +kernel
theorem tyX4_ok : ∀ k, k < 9 → parseFieldDescriptor (TX4 k).2.2.1 = some (tyX4 k) := by decide +kernel
abbrev cX4_init : ByteArray := prog_6_method_1_code
def yX4_init : MethodName := ⟨RX4, "<init>", "()V"⟩
abbrev cX4_allows : ByteArray := prog_6_method_2_code
def yX4_allows : MethodName := ⟨RX4, "allows", "(I)Z"⟩
abbrev cX4_isDigit : ByteArray := prog_6_method_3_code
def yX4_isDigit : MethodName := ⟨RX4, "isDigit", "(I)Z"⟩
abbrev cX4_isFull : ByteArray := prog_6_method_4_code
def yX4_isFull : MethodName := ⟨RX4, "isFull", "()Z"⟩
abbrev cX4_append : ByteArray := prog_6_method_5_code
def yX4_append : MethodName := ⟨RX4, "append", "(I)I"⟩
abbrev cX4_scan : ByteArray := prog_6_method_6_code
def yX4_scan : MethodName := ⟨RX4, "scan", "()V"⟩
abbrev cX4_refuse : ByteArray := prog_6_method_7_code
def yX4_refuse : MethodName := ⟨RX4, "refuse", "(II)V"⟩
abbrev cX4_takeAt : ByteArray := prog_6_method_8_code
def yX4_takeAt : MethodName := ⟨RX4, "takeAt", "(I)V"⟩
abbrev cX4_lineEnd : ByteArray := prog_6_method_9_code
def yX4_lineEnd : MethodName := ⟨RX4, "lineEnd", "(I)I"⟩
abbrev cX4_takeSlash : ByteArray := prog_6_method_10_code
def yX4_takeSlash : MethodName := ⟨RX4, "takeSlash", "(I)V"⟩
abbrev cX4_takeNumber : ByteArray := prog_6_method_11_code
def yX4_takeNumber : MethodName := ⟨RX4, "takeNumber", "(I)V"⟩
abbrev cX4_beginPitch : ByteArray := prog_6_method_12_code
def yX4_beginPitch : MethodName := ⟨RX4, "beginPitch", "(I)V"⟩
abbrev cX4_multiply : ByteArray := prog_6_method_13_code
def yX4_multiply : MethodName := ⟨RX4, "multiply", "(III)V"⟩
abbrev cX4_takeEnd : ByteArray := prog_6_method_14_code
def yX4_takeEnd : MethodName := ⟨RX4, "takeEnd", "()V"⟩
abbrev cX4_endsWithPeriod : ByteArray := prog_6_method_15_code
def yX4_endsWithPeriod : MethodName := ⟨RX4, "endsWithPeriod", "()Z"⟩
def RX5 : String := "TuningTables"
def TX5 : u_T := fun k => match k with
  | 0 => ("TuningTables", "text", "LTuningTables$Text;", true)
  | 1 => ("TuningTables", "scale", "LTuningTables$Scale;", true)
  | 2 => ("TuningTables", "parts", "LTuningTables$Parts;", true)
  | _ => ("TuningTables", "division", "LTuningTables$Division;", true)
def tyX5 : Nat → FieldType := fun k => match k with
  | 0 => .object "TuningTables$Text"
  | 1 => .object "TuningTables$Scale"
  | 2 => .object "TuningTables$Parts"
  | _ => .object "TuningTables$Division"
abbrev wsX50 : List Cond := u_ws RX5 TX5 4
theorem nmX5 : ∀ a, a < 4 → ∀ b, b < 4 → a ≠ b → (TX5 a).2.1 ≠ (TX5 b).2.1 := by decide +kernel
theorem tyX5_ok : ∀ k, k < 4 → parseFieldDescriptor (TX5 k).2.2.1 = some (tyX5 k) := by decide +kernel
abbrev cX5_init : ByteArray := prog_1_method_1_code
def yX5_init : MethodName := ⟨RX5, "<init>", "()V"⟩
abbrev cX5_sign : ByteArray := prog_1_method_2_code
def yX5_sign : MethodName := ⟨RX5, "sign", "(I)I"⟩
abbrev cX5_read : ByteArray := prog_1_method_3_code
def yX5_read : MethodName := ⟨RX5, "read", "()I"⟩
abbrev cX5_place : ByteArray := prog_1_method_4_code
def yX5_place : MethodName := ⟨RX5, "place", "()I"⟩
abbrev cX5_steps : ByteArray := prog_1_method_5_code
def yX5_steps : MethodName := ⟨RX5, "steps", "()I"⟩
abbrev cX5_exponent : ByteArray := prog_1_method_6_code
def yX5_exponent : MethodName := ⟨RX5, "exponent", "(II)I"⟩
abbrev cX5_key : ByteArray := prog_1_method_7_code
def yX5_key : MethodName := ⟨RX5, "key", "(II)I"⟩
abbrev cX5_compare : ByteArray := prog_1_method_8_code
def yX5_compare : MethodName := ⟨RX5, "compare", "(II)I"⟩
abbrev cX5_reduce : ByteArray := prog_1_method_9_code
def yX5_reduce : MethodName := ⟨RX5, "reduce", "(I)I"⟩
abbrev cX5_order : ByteArray := prog_1_method_10_code
def yX5_order : MethodName := ⟨RX5, "order", "(I)I"⟩
abbrev cX5_gap : ByteArray := prog_1_method_11_code
def yX5_gap : MethodName := ⟨RX5, "gap", "(II)I"⟩
abbrev cX5_gaps : ByteArray := prog_1_method_12_code
def yX5_gaps : MethodName := ⟨RX5, "gaps", "()I"⟩
abbrev cX5_chain : ByteArray := prog_1_method_13_code
def yX5_chain : MethodName := ⟨RX5, "chain", "(IIIIIII)I"⟩
abbrev cX5_degree : ByteArray := prog_1_method_14_code
def yX5_degree : MethodName := ⟨RX5, "degree", "(II)I"⟩
abbrev cX5_prime : ByteArray := prog_1_method_15_code
def yX5_prime : MethodName := ⟨RX5, "prime", "(II)I"⟩
abbrev cX5_makes : ByteArray := prog_1_method_16_code
def yX5_makes : MethodName := ⟨RX5, "makes", "(II)I"⟩
abbrev cX5_tempers : ByteArray := prog_1_method_17_code
def yX5_tempers : MethodName := ⟨RX5, "tempers", "(I)I"⟩
abbrev cX5_term : ByteArray := prog_1_method_18_code
def yX5_term : MethodName := ⟨RX5, "term", "(II)I"⟩
abbrev cX5_isStep : ByteArray := prog_1_method_19_code
def yX5_isStep : MethodName := ⟨RX5, "isStep", "(I)Z"⟩
abbrev cX5_isStepOrPeriod : ByteArray := prog_1_method_20_code
def yX5_isStepOrPeriod : MethodName := ⟨RX5, "isStepOrPeriod", "(I)Z"⟩
abbrev cX5_isPrime : ByteArray := prog_1_method_21_code
def yX5_isPrime : MethodName := ⟨RX5, "isPrime", "(I)Z"⟩
abbrev cX5_isPartCount : ByteArray := prog_1_method_22_code
def yX5_isPartCount : MethodName := ⟨RX5, "isPartCount", "(I)Z"⟩
abbrev cX5_mayLink : ByteArray := prog_1_method_23_code
def yX5_mayLink : MethodName := ⟨RX5, "mayLink", "(I)Z"⟩
def RX6 : String := "TuningTablesModel"
def TX6 : u_T := fun k => match k with
  | 0 => ("TuningTablesModel", "primes", "[I", true)
  | 1 => ("TuningTablesModel", "logs", "[I", true)
  | 2 => ("TuningTablesModel", "text", "[I", true)
  | 3 => ("TuningTablesModel", "length", "I", false)
  | 4 => ("TuningTablesModel", "faultAt", "I", false)
  | 5 => ("TuningTablesModel", "steps", "I", false)
  | 6 => ("TuningTablesModel", "exponents", "[I", true)
  | 7 => ("TuningTablesModel", "period", "[I", true)
  | 8 => ("TuningTablesModel", "above", "[J", true)
  | 9 => ("TuningTablesModel", "below", "[J", true)
  | 10 => ("TuningTablesModel", "limbs", "I", false)
  | 11 => ("TuningTablesModel", "tried", "[I", true)
  | 12 => ("TuningTablesModel", "note", "[I", true)
  | 13 => ("TuningTablesModel", "other", "[I", true)
  | 14 => ("TuningTablesModel", "at", "I", false)
  | 15 => ("TuningTablesModel", "token", "I", false)
  | 16 => ("TuningTablesModel", "from", "I", false)
  | 17 => ("TuningTablesModel", "value", "I", false)
  | 18 => ("TuningTablesModel", "bad", "I", false)
  | 19 => ("TuningTablesModel", "badAt", "I", false)
  | 20 => ("TuningTablesModel", "fresh", "[I", true)
  | 21 => ("TuningTablesModel", "pitches", "I", false)
  | 22 => ("TuningTablesModel", "pitchAt", "I", false)
  | 23 => ("TuningTablesModel", "wholeAbove", "I", false)
  | 24 => ("TuningTablesModel", "wholeBelow", "I", false)
  | 25 => ("TuningTablesModel", "all", "[I", true)
  | 26 => ("TuningTablesModel", "ordered", "[I", true)
  | 27 => ("TuningTablesModel", "told", "[I", true)
  | 28 => ("TuningTablesModel", "x", "[I", true)
  | _ => ("TuningTablesModel", "y", "[I", true)
def tyX6 : Nat → FieldType := fun k => match k with
  | 0 => .array .int
  | 1 => .array .int
  | 2 => .array .int
  | 3 => .int
  | 4 => .int
  | 5 => .int
  | 6 => .array .int
  | 7 => .array .int
  | 8 => .array .long
  | 9 => .array .long
  | 10 => .int
  | 11 => .array .int
  | 12 => .array .int
  | 13 => .array .int
  | 14 => .int
  | 15 => .int
  | 16 => .int
  | 17 => .int
  | 18 => .int
  | 19 => .int
  | 20 => .array .int
  | 21 => .int
  | 22 => .int
  | 23 => .int
  | 24 => .int
  | 25 => .array .int
  | 26 => .array .int
  | 27 => .array .int
  | 28 => .array .int
  | _ => .array .int
abbrev wsX60 : List Cond := u_ws RX6 TX6 30
theorem nmX6 : ∀ a, a < 30 → ∀ b, b < 30 → a ≠ b → (TX6 a).2.1 ≠ (TX6 b).2.1 := by decide +kernel
theorem tyX6_ok : ∀ k, k < 30 → parseFieldDescriptor (TX6 k).2.2.1 = some (tyX6 k) := by decide +kernel
abbrev cX6_init : ByteArray := prog_8_method_1_code
def yX6_init : MethodName := ⟨RX6, "<init>", "()V"⟩
abbrev cX6_within : ByteArray := prog_8_method_3_code
def yX6_within : MethodName := ⟨RX6, "within", "(III)Z"⟩
abbrev cX6_lay : ByteArray := prog_8_method_4_code
def yX6_lay : MethodName := ⟨RX6, "lay", "([II[J)I"⟩
abbrev cX6_multiply : ByteArray := prog_8_method_5_code
def yX6_multiply : MethodName := ⟨RX6, "multiply", "([JIJ)I"⟩
abbrev cX6_logOf : ByteArray := prog_8_method_6_code
def yX6_logOf : MethodName := ⟨RX6, "logOf", "([I)J"⟩
abbrev cX6_sign : ByteArray := prog_8_method_7_code
def yX6_sign : MethodName := ⟨RX6, "sign", "([I)I"⟩
abbrev cX6_signOf : ByteArray := prog_8_method_8_code
def yX6_signOf : MethodName := ⟨RX6, "signOf", "([II[II)I"⟩
abbrev cX6_take : ByteArray := prog_8_method_9_code
def yX6_take : MethodName := ⟨RX6, "take", "(I[I)V"⟩
abbrev cX6_periodsIn : ByteArray := prog_8_method_10_code
def yX6_periodsIn : MethodName := ⟨RX6, "periodsIn", "([I)I"⟩
abbrev cX6_degreeOf : ByteArray := prog_8_method_11_code
def yX6_degreeOf : MethodName := ⟨RX6, "degreeOf", "([II)I"⟩
abbrev cX6_reduced : ByteArray := prog_8_method_12_code
def yX6_reduced : MethodName := ⟨RX6, "reduced", "(I[I)V"⟩
abbrev cX6_sign_ : ByteArray := prog_8_method_13_code
def yX6_sign_ : MethodName := ⟨RX6, "sign", "(I)I"⟩
abbrev cX6_fails : ByteArray := prog_8_method_14_code
def yX6_fails : MethodName := ⟨RX6, "fails", "(II)V"⟩
abbrev cX6_next : ByteArray := prog_8_method_15_code
def yX6_next : MethodName := ⟨RX6, "next", "()V"⟩
abbrev cX6_factor : ByteArray := prog_8_method_16_code
def yX6_factor : MethodName := ⟨RX6, "factor", "(I)V"⟩
abbrev cX6_readPitch : ByteArray := prog_8_method_17_code
def yX6_readPitch : MethodName := ⟨RX6, "readPitch", "()V"⟩
abbrev cX6_whole : ByteArray := prog_8_method_18_code
def yX6_whole : MethodName := ⟨RX6, "whole", "(I)I"⟩
abbrev cX6_read : ByteArray := prog_8_method_19_code
def yX6_read : MethodName := ⟨RX6, "read", "()I"⟩
abbrev cX6_place : ByteArray := prog_8_method_20_code
def yX6_place : MethodName := ⟨RX6, "place", "()I"⟩
abbrev cX6_isStep : ByteArray := prog_8_method_21_code
def yX6_isStep : MethodName := ⟨RX6, "isStep", "(I)Z"⟩
abbrev cX6_steps : ByteArray := prog_8_method_22_code
def yX6_steps : MethodName := ⟨RX6, "steps", "()I"⟩
abbrev cX6_exponent : ByteArray := prog_8_method_23_code
def yX6_exponent : MethodName := ⟨RX6, "exponent", "(II)I"⟩
abbrev cX6_key : ByteArray := prog_8_method_24_code
def yX6_key : MethodName := ⟨RX6, "key", "(II)I"⟩
abbrev cX6_compare : ByteArray := prog_8_method_25_code
def yX6_compare : MethodName := ⟨RX6, "compare", "(II)I"⟩
abbrev cX6_reduce : ByteArray := prog_8_method_26_code
def yX6_reduce : MethodName := ⟨RX6, "reduce", "(I)I"⟩
abbrev cX6_compareReduced : ByteArray := prog_8_method_27_code
def yX6_compareReduced : MethodName := ⟨RX6, "compareReduced", "(II)I"⟩
abbrev cX6_orderAll : ByteArray := prog_8_method_28_code
def yX6_orderAll : MethodName := ⟨RX6, "orderAll", "()V"⟩
abbrev cX6_order : ByteArray := prog_8_method_29_code
def yX6_order : MethodName := ⟨RX6, "order", "(I)I"⟩
abbrev cX6_gapAt : ByteArray := prog_8_method_30_code
def yX6_gapAt : MethodName := ⟨RX6, "gapAt", "(II)I"⟩
abbrev cX6_gap : ByteArray := prog_8_method_31_code
def yX6_gap : MethodName := ⟨RX6, "gap", "(II)I"⟩
abbrev cX6_gaps : ByteArray := prog_8_method_32_code
def yX6_gaps : MethodName := ⟨RX6, "gaps", "()I"⟩
abbrev cX6_chain : ByteArray := prog_8_method_33_code
def yX6_chain : MethodName := ⟨RX6, "chain", "(IIIIIII)I"⟩
abbrev cX6_degree : ByteArray := prog_8_method_34_code
def yX6_degree : MethodName := ⟨RX6, "degree", "(II)I"⟩
abbrev cX6_primeDegree : ByteArray := prog_8_method_35_code
def yX6_primeDegree : MethodName := ⟨RX6, "primeDegree", "(II)I"⟩
abbrev cX6_prime : ByteArray := prog_8_method_36_code
def yX6_prime : MethodName := ⟨RX6, "prime", "(II)I"⟩
abbrev cX6_made : ByteArray := prog_8_method_37_code
def yX6_made : MethodName := ⟨RX6, "made", "(II)I"⟩
abbrev cX6_makes : ByteArray := prog_8_method_38_code
def yX6_makes : MethodName := ⟨RX6, "makes", "(II)I"⟩
abbrev cX6_tempers : ByteArray := prog_8_method_39_code
def yX6_tempers : MethodName := ⟨RX6, "tempers", "(I)I"⟩
abbrev cX6_isWide : ByteArray := prog_8_method_40_code
def yX6_isWide : MethodName := ⟨RX6, "isWide", "([I)Z"⟩
abbrev cX6_takeTerm : ByteArray := prog_8_method_41_code
def yX6_takeTerm : MethodName := ⟨RX6, "takeTerm", "()I"⟩
abbrev cX6_term : ByteArray := prog_8_method_42_code
def yX6_term : MethodName := ⟨RX6, "term", "(II)I"⟩
def RJ9 : String := "java/lang/Math"
def TJ9 : u_T := fun k => match k with
  | _ => ("", "", "", false)
def tyJ9 : Nat → FieldType := fun k => match k with
  | _ => .int
abbrev wsJ90 : List Cond := u_ws RJ9 TJ9 0
theorem nmJ9 : ∀ a, a < 0 → ∀ b, b < 0 → a ≠ b → (TJ9 a).2.1 ≠ (TJ9 b).2.1 := by decide +kernel
theorem tyJ9_ok : ∀ k, k < 0 → parseFieldDescriptor (TJ9 k).2.2.1 = some (tyJ9 k) := by decide +kernel
abbrev cJ9_floorDiv_7cf53 : ByteArray := prog_9_method_47_code
def yJ9_floorDiv_7cf53 : MethodName := ⟨RJ9, "floorDiv", "(II)I"⟩
def RJ10 : String := "java/lang/System"
def TJ10 : u_T := fun k => match k with
  | _ => ("", "", "", false)
def tyJ10 : Nat → FieldType := fun k => match k with
  | _ => .int
abbrev wsJ100 : List Cond := u_ws RJ10 TJ10 0
theorem nmJ10 : ∀ a, a < 0 → ∀ b, b < 0 → a ≠ b → (TJ10 a).2.1 ≠ (TJ10 b).2.1 := by decide +kernel
theorem tyJ10_ok : ∀ k, k < 0 → parseFieldDescriptor (TJ10 k).2.2.1 = some (tyJ10 k) := by decide +kernel
def RJ7 : String := "java/util/Arrays"
def TJ7 : u_T := fun k => match k with
  | _ => ("", "", "", false)
def tyJ7 : Nat → FieldType := fun k => match k with
  | _ => .int
abbrev wsJ70 : List Cond := u_ws RJ7 TJ7 0
theorem nmJ7 : ∀ a, a < 0 → ∀ b, b < 0 → a ≠ b → (TJ7 a).2.1 ≠ (TJ7 b).2.1 := by decide +kernel
theorem tyJ7_ok : ∀ k, k < 0 → parseFieldDescriptor (TJ7 k).2.2.1 = some (tyJ7 k) := by decide +kernel
abbrev cJ7_fill_53178 : ByteArray := prog_11_method_103_code
def yJ7_fill_53178 : MethodName := ⟨RJ7, "fill", "([II)V"⟩
def RL : String := "TuningTablesLaw"
abbrev cL_law : ByteArray := code
def yL_law : MethodName := ⟨RL, "law", "([I)Z"⟩
abbrev vwCl : List vw_C := [(RX0, TX0, 2), (RX1, TX1, 4), (RX2, TX2, 5), (RX3, TX3, 8), (RX4, TX4, 9), (RX5, TX5, 4), (RX6, TX6, 30)]
/-! ===== the words that hold at every call: those of the tables that last ===== -/
def xTT : List Cond := lw_tbl.filter goodWord
theorem xtt {w : Cond} (h : w ∈ lw_tbl) (hg : goodWord w = true) : w ∈ xTT := List.mem_filter.mpr ⟨h, hg⟩
theorem xtt_good {w : Cond} (h : w ∈ xTT) : (w.onTables && w.keeps) = true ∨ ∃ ty, w = .arrayClass ty := good_of_word (List.mem_filter.mp h).2
set_option maxRecDepth 100000 in
theorem xinX0 : ∀ w ∈ u_ws RX0 TX0 2, w ∈ xTT := by
  show ∀ w ∈ [u_lay RX0 TX0 0, u_lay RX0 TX0 1], w ∈ xTT
  exact (List.forall_mem_cons.mpr ⟨(xtt (List.mem_of_getElem? (i := 191) rfl) rfl), (List.forall_mem_cons.mpr ⟨(xtt (List.mem_of_getElem? (i := 193) rfl) rfl), (fun _ h => absurd h List.not_mem_nil)⟩)⟩)
set_option maxRecDepth 100000 in
theorem xinX1 : ∀ w ∈ u_ws RX1 TX1 4, w ∈ xTT := by
  show ∀ w ∈ [u_lay RX1 TX1 0, u_lay RX1 TX1 1, u_lay RX1 TX1 2, u_lay RX1 TX1 3], w ∈ xTT
  exact (List.forall_mem_cons.mpr ⟨(xtt (List.mem_of_getElem? (i := 102) rfl) rfl), (List.forall_mem_cons.mpr ⟨(xtt (List.mem_of_getElem? (i := 104) rfl) rfl), (List.forall_mem_cons.mpr ⟨(xtt (List.mem_of_getElem? (i := 106) rfl) rfl), (List.forall_mem_cons.mpr ⟨(xtt (List.mem_of_getElem? (i := 108) rfl) rfl), (fun _ h => absurd h List.not_mem_nil)⟩)⟩)⟩)⟩)
set_option maxRecDepth 100000 in
theorem xinX2 : ∀ w ∈ u_ws RX2 TX2 5, w ∈ xTT := by
  show ∀ w ∈ [u_lay RX2 TX2 0, u_lay RX2 TX2 1, u_lay RX2 TX2 2, u_lay RX2 TX2 3, u_lay RX2 TX2 4], w ∈ xTT
  exact (List.forall_mem_cons.mpr ⟨(xtt (List.mem_of_getElem? (i := 170) rfl) rfl), (List.forall_mem_cons.mpr ⟨(xtt (List.mem_of_getElem? (i := 172) rfl) rfl), (List.forall_mem_cons.mpr ⟨(xtt (List.mem_of_getElem? (i := 174) rfl) rfl), (List.forall_mem_cons.mpr ⟨(xtt (List.mem_of_getElem? (i := 176) rfl) rfl), (List.forall_mem_cons.mpr ⟨(xtt (List.mem_of_getElem? (i := 178) rfl) rfl), (fun _ h => absurd h List.not_mem_nil)⟩)⟩)⟩)⟩)⟩)
set_option maxRecDepth 100000 in
theorem xinX3 : ∀ w ∈ u_ws RX3 TX3 8, w ∈ xTT := by
  show ∀ w ∈ [u_lay RX3 TX3 0, u_lay RX3 TX3 1, u_lay RX3 TX3 2, u_lay RX3 TX3 3, u_lay RX3 TX3 4, u_lay RX3 TX3 5, u_lay RX3 TX3 6, u_lay RX3 TX3 7], w ∈ xTT
  exact (List.forall_mem_cons.mpr ⟨(xtt (List.mem_of_getElem? (i := 136) rfl) rfl), (List.forall_mem_cons.mpr ⟨(xtt (List.mem_of_getElem? (i := 138) rfl) rfl), (List.forall_mem_cons.mpr ⟨(xtt (List.mem_of_getElem? (i := 140) rfl) rfl), (List.forall_mem_cons.mpr ⟨(xtt (List.mem_of_getElem? (i := 142) rfl) rfl), (List.forall_mem_cons.mpr ⟨(xtt (List.mem_of_getElem? (i := 144) rfl) rfl), (List.forall_mem_cons.mpr ⟨(xtt (List.mem_of_getElem? (i := 146) rfl) rfl), (List.forall_mem_cons.mpr ⟨(xtt (List.mem_of_getElem? (i := 148) rfl) rfl), (List.forall_mem_cons.mpr ⟨(xtt (List.mem_of_getElem? (i := 150) rfl) rfl), (fun _ h => absurd h List.not_mem_nil)⟩)⟩)⟩)⟩)⟩)⟩)⟩)⟩)
set_option maxRecDepth 100000 in
theorem xinX4 : ∀ w ∈ u_ws RX4 TX4 9, w ∈ xTT := by
  show ∀ w ∈ [u_lay RX4 TX4 0, u_lay RX4 TX4 1, u_lay RX4 TX4 2, u_lay RX4 TX4 3, u_lay RX4 TX4 4, u_lay RX4 TX4 5, u_lay RX4 TX4 6, u_lay RX4 TX4 7, u_lay RX4 TX4 8], w ∈ xTT
  exact (List.forall_mem_cons.mpr ⟨(xtt (List.mem_of_getElem? (i := 61) rfl) rfl), (List.forall_mem_cons.mpr ⟨(xtt (List.mem_of_getElem? (i := 63) rfl) rfl), (List.forall_mem_cons.mpr ⟨(xtt (List.mem_of_getElem? (i := 65) rfl) rfl), (List.forall_mem_cons.mpr ⟨(xtt (List.mem_of_getElem? (i := 67) rfl) rfl), (List.forall_mem_cons.mpr ⟨(xtt (List.mem_of_getElem? (i := 69) rfl) rfl), (List.forall_mem_cons.mpr ⟨(xtt (List.mem_of_getElem? (i := 71) rfl) rfl), (List.forall_mem_cons.mpr ⟨(xtt (List.mem_of_getElem? (i := 73) rfl) rfl), (List.forall_mem_cons.mpr ⟨(xtt (List.mem_of_getElem? (i := 75) rfl) rfl), (List.forall_mem_cons.mpr ⟨(xtt (List.mem_of_getElem? (i := 77) rfl) rfl), (fun _ h => absurd h List.not_mem_nil)⟩)⟩)⟩)⟩)⟩)⟩)⟩)⟩)⟩)
set_option maxRecDepth 100000 in
theorem xinX5 : ∀ w ∈ u_ws RX5 TX5 4, w ∈ xTT := by
  show ∀ w ∈ [u_lay RX5 TX5 0, u_lay RX5 TX5 1, u_lay RX5 TX5 2, u_lay RX5 TX5 3], w ∈ xTT
  exact (List.forall_mem_cons.mpr ⟨(xtt (List.mem_of_getElem? (i := 200) rfl) rfl), (List.forall_mem_cons.mpr ⟨(xtt (List.mem_of_getElem? (i := 202) rfl) rfl), (List.forall_mem_cons.mpr ⟨(xtt (List.mem_of_getElem? (i := 204) rfl) rfl), (List.forall_mem_cons.mpr ⟨(xtt (List.mem_of_getElem? (i := 206) rfl) rfl), (fun _ h => absurd h List.not_mem_nil)⟩)⟩)⟩)⟩)
set_option maxRecDepth 100000 in
theorem xinX6 : ∀ w ∈ u_ws RX6 TX6 30, w ∈ xTT := by
  show ∀ w ∈ [u_lay RX6 TX6 0, u_lay RX6 TX6 1, u_lay RX6 TX6 2, u_lay RX6 TX6 3, u_lay RX6 TX6 4, u_lay RX6 TX6 5, u_lay RX6 TX6 6, u_lay RX6 TX6 7, u_lay RX6 TX6 8, u_lay RX6 TX6 9, u_lay RX6 TX6 10, u_lay RX6 TX6 11, u_lay RX6 TX6 12, u_lay RX6 TX6 13, u_lay RX6 TX6 14, u_lay RX6 TX6 15, u_lay RX6 TX6 16, u_lay RX6 TX6 17, u_lay RX6 TX6 18, u_lay RX6 TX6 19, u_lay RX6 TX6 20, u_lay RX6 TX6 21, u_lay RX6 TX6 22, u_lay RX6 TX6 23, u_lay RX6 TX6 24, u_lay RX6 TX6 25, u_lay RX6 TX6 26, u_lay RX6 TX6 27, u_lay RX6 TX6 28, u_lay RX6 TX6 29], w ∈ xTT
  exact (List.forall_mem_cons.mpr ⟨(xtt (List.mem_of_getElem? (i := 526) rfl) rfl), (List.forall_mem_cons.mpr ⟨(xtt (List.mem_of_getElem? (i := 528) rfl) rfl), (List.forall_mem_cons.mpr ⟨(xtt (List.mem_of_getElem? (i := 530) rfl) rfl), (List.forall_mem_cons.mpr ⟨(xtt (List.mem_of_getElem? (i := 532) rfl) rfl), (List.forall_mem_cons.mpr ⟨(xtt (List.mem_of_getElem? (i := 534) rfl) rfl), (List.forall_mem_cons.mpr ⟨(xtt (List.mem_of_getElem? (i := 536) rfl) rfl), (List.forall_mem_cons.mpr ⟨(xtt (List.mem_of_getElem? (i := 538) rfl) rfl), (List.forall_mem_cons.mpr ⟨(xtt (List.mem_of_getElem? (i := 540) rfl) rfl), (List.forall_mem_cons.mpr ⟨(xtt (List.mem_of_getElem? (i := 542) rfl) rfl), (List.forall_mem_cons.mpr ⟨(xtt (List.mem_of_getElem? (i := 544) rfl) rfl), (List.forall_mem_cons.mpr ⟨(xtt (List.mem_of_getElem? (i := 546) rfl) rfl), (List.forall_mem_cons.mpr ⟨(xtt (List.mem_of_getElem? (i := 548) rfl) rfl), (List.forall_mem_cons.mpr ⟨(xtt (List.mem_of_getElem? (i := 550) rfl) rfl), (List.forall_mem_cons.mpr ⟨(xtt (List.mem_of_getElem? (i := 552) rfl) rfl), (List.forall_mem_cons.mpr ⟨(xtt (List.mem_of_getElem? (i := 554) rfl) rfl), (List.forall_mem_cons.mpr ⟨(xtt (List.mem_of_getElem? (i := 556) rfl) rfl), (List.forall_mem_cons.mpr ⟨(xtt (List.mem_of_getElem? (i := 558) rfl) rfl), (List.forall_mem_cons.mpr ⟨(xtt (List.mem_of_getElem? (i := 560) rfl) rfl), (List.forall_mem_cons.mpr ⟨(xtt (List.mem_of_getElem? (i := 562) rfl) rfl), (List.forall_mem_cons.mpr ⟨(xtt (List.mem_of_getElem? (i := 564) rfl) rfl), (List.forall_mem_cons.mpr ⟨(xtt (List.mem_of_getElem? (i := 566) rfl) rfl), (List.forall_mem_cons.mpr ⟨(xtt (List.mem_of_getElem? (i := 568) rfl) rfl), (List.forall_mem_cons.mpr ⟨(xtt (List.mem_of_getElem? (i := 570) rfl) rfl), (List.forall_mem_cons.mpr ⟨(xtt (List.mem_of_getElem? (i := 572) rfl) rfl), (List.forall_mem_cons.mpr ⟨(xtt (List.mem_of_getElem? (i := 574) rfl) rfl), (List.forall_mem_cons.mpr ⟨(xtt (List.mem_of_getElem? (i := 576) rfl) rfl), (List.forall_mem_cons.mpr ⟨(xtt (List.mem_of_getElem? (i := 578) rfl) rfl), (List.forall_mem_cons.mpr ⟨(xtt (List.mem_of_getElem? (i := 580) rfl) rfl), (List.forall_mem_cons.mpr ⟨(xtt (List.mem_of_getElem? (i := 582) rfl) rfl), (List.forall_mem_cons.mpr ⟨(xtt (List.mem_of_getElem? (i := 584) rfl) rfl), (fun _ h => absurd h List.not_mem_nil)⟩)⟩)⟩)⟩)⟩)⟩)⟩)⟩)⟩)⟩)⟩)⟩)⟩)⟩)⟩)⟩)⟩)⟩)⟩)⟩)⟩)⟩)⟩)⟩)⟩)⟩)⟩)⟩)⟩)⟩)
def xPoolOK (own : String) (q : Nat × Nat × Nat) : Prop := ∃ r : vw_C, vwCl[q.2.1]? = some r ∧ q.2.2 < r.2.2 ∧ Cond.fieldLink own q.1 (r.2.1 q.2.2).1 (r.2.1 q.2.2).2.1 (r.2.1 q.2.2).2.2.1 ∈ xTT
def xCstOK (own : String) (q : Nat × Value) : Prop := (∃ x : Int32, q.2 = .int x ∧ Cond.constant own q.1 x ∈ xTT) ∨ ∃ x : Int64, q.2 = .long x ∧ Cond.constantLong own q.1 x ∈ xTT
def xplX0 : List (Nat × Nat × Nat) := [(12, 0, 0), (18, 0, 1)]
set_option maxRecDepth 100000 in
theorem xplX0_ok : ∀ q ∈ xplX0, xPoolOK RX0 q := (List.forall_mem_cons.mpr ⟨⟨_, rfl, by decide, (xtt (List.mem_of_getElem? (i := 189) rfl) rfl)⟩, (List.forall_mem_cons.mpr ⟨⟨_, rfl, by decide, (xtt (List.mem_of_getElem? (i := 190) rfl) rfl)⟩, (fun _ h => absurd h List.not_mem_nil)⟩)⟩)
def xpX0 (i : Nat) : Option (Nat × Nat) := xplX0.lookup i
theorem xpX0_12 : xpX0 12 = some (0, 0) := rfl
theorem xpX0_18 : xpX0 18 = some (0, 1) := rfl
def xclX0 : List (Nat × Value) := [(29, .int (-1000006)), (34, .int (-1000001))]
set_option maxRecDepth 100000 in
theorem xclX0_ok : ∀ q ∈ xclX0, xCstOK RX0 q := (List.forall_mem_cons.mpr ⟨Or.inl ⟨_, rfl, (xtt (List.mem_of_getElem? (i := 480) rfl) rfl)⟩, (List.forall_mem_cons.mpr ⟨Or.inl ⟨_, rfl, (xtt (List.mem_of_getElem? (i := 484) rfl) rfl)⟩, (fun _ h => absurd h List.not_mem_nil)⟩)⟩)
def xcX0 (i : Nat) : Option Value := xclX0.lookup i
theorem xcX0_29 : xcX0 29 = some (.int (-1000006)) := rfl
theorem xcX0_34 : xcX0 34 = some (.int (-1000001)) := rfl
def xplX1 : List (Nat × Nat × Nat) := [(9, 1, 0), (21, 1, 1), (25, 1, 2), (28, 1, 3)]
set_option maxRecDepth 100000 in
theorem xplX1_ok : ∀ q ∈ xplX1, xPoolOK RX1 q := (List.forall_mem_cons.mpr ⟨⟨_, rfl, by decide, (xtt (List.mem_of_getElem? (i := 95) rfl) rfl)⟩, (List.forall_mem_cons.mpr ⟨⟨_, rfl, by decide, (xtt (List.mem_of_getElem? (i := 99) rfl) rfl)⟩, (List.forall_mem_cons.mpr ⟨⟨_, rfl, by decide, (xtt (List.mem_of_getElem? (i := 100) rfl) rfl)⟩, (List.forall_mem_cons.mpr ⟨⟨_, rfl, by decide, (xtt (List.mem_of_getElem? (i := 101) rfl) rfl)⟩, (fun _ h => absurd h List.not_mem_nil)⟩)⟩)⟩)⟩)
def xpX1 (i : Nat) : Option (Nat × Nat) := xplX1.lookup i
theorem xpX1_9 : xpX1 9 = some (1, 0) := rfl
theorem xpX1_21 : xpX1 21 = some (1, 1) := rfl
theorem xpX1_25 : xpX1 25 = some (1, 2) := rfl
theorem xpX1_28 : xpX1 28 = some (1, 3) := rfl
def xclX1 : List (Nat × Value) := [(44, .long (1099511627775))]
set_option maxRecDepth 100000 in
theorem xclX1_ok : ∀ q ∈ xclX1, xCstOK RX1 q := (List.forall_mem_cons.mpr ⟨Or.inr ⟨_, rfl, (xtt (List.mem_of_getElem? (i := 121) rfl) rfl)⟩, (fun _ h => absurd h List.not_mem_nil)⟩)
def xcX1 (i : Nat) : Option Value := xclX1.lookup i
theorem xcX1_44 : xcX1 44 = some (.long (1099511627775)) := rfl
def xplX2 : List (Nat × Nat × Nat) := [(12, 2, 1), (18, 2, 2), (21, 2, 3), (24, 2, 4), (28, 2, 0), (61, 1, 0)]
set_option maxRecDepth 100000 in
theorem xplX2_ok : ∀ q ∈ xplX2, xPoolOK RX2 q := (List.forall_mem_cons.mpr ⟨⟨_, rfl, by decide, (xtt (List.mem_of_getElem? (i := 166) rfl) rfl)⟩, (List.forall_mem_cons.mpr ⟨⟨_, rfl, by decide, (xtt (List.mem_of_getElem? (i := 167) rfl) rfl)⟩, (List.forall_mem_cons.mpr ⟨⟨_, rfl, by decide, (xtt (List.mem_of_getElem? (i := 168) rfl) rfl)⟩, (List.forall_mem_cons.mpr ⟨⟨_, rfl, by decide, (xtt (List.mem_of_getElem? (i := 169) rfl) rfl)⟩, (List.forall_mem_cons.mpr ⟨⟨_, rfl, by decide, (xtt (List.mem_of_getElem? (i := 165) rfl) rfl)⟩, (List.forall_mem_cons.mpr ⟨⟨_, rfl, by decide, (xtt (List.mem_of_getElem? (i := 96) rfl) rfl)⟩, (fun _ h => absurd h List.not_mem_nil)⟩)⟩)⟩)⟩)⟩)⟩)
def xpX2 (i : Nat) : Option (Nat × Nat) := xplX2.lookup i
theorem xpX2_12 : xpX2 12 = some (2, 1) := rfl
theorem xpX2_18 : xpX2 18 = some (2, 2) := rfl
theorem xpX2_21 : xpX2 21 = some (2, 3) := rfl
theorem xpX2_24 : xpX2 24 = some (2, 4) := rfl
theorem xpX2_28 : xpX2 28 = some (2, 0) := rfl
theorem xpX2_61 : xpX2 61 = some (1, 0) := rfl
def xclX2 : List (Nat × Value) := [(31, .int (-1000001))]
set_option maxRecDepth 100000 in
theorem xclX2_ok : ∀ q ∈ xclX2, xCstOK RX2 q := (List.forall_mem_cons.mpr ⟨Or.inl ⟨_, rfl, (xtt (List.mem_of_getElem? (i := 161) rfl) rfl)⟩, (fun _ h => absurd h List.not_mem_nil)⟩)
def xcX2 (i : Nat) : Option Value := xclX2.lookup i
theorem xcX2_31 : xcX2 31 = some (.int (-1000001)) := rfl
def xplX3 : List (Nat × Nat × Nat) := [(11, 3, 0), (17, 3, 1), (20, 3, 2), (24, 3, 3), (28, 3, 4), (32, 3, 5), (35, 3, 6), (38, 3, 7), (46, 4, 3), (49, 4, 1), (85, 1, 0)]
set_option maxRecDepth 100000 in
theorem xplX3_ok : ∀ q ∈ xplX3, xPoolOK RX3 q := (List.forall_mem_cons.mpr ⟨⟨_, rfl, by decide, (xtt (List.mem_of_getElem? (i := 122) rfl) rfl)⟩, (List.forall_mem_cons.mpr ⟨⟨_, rfl, by decide, (xtt (List.mem_of_getElem? (i := 124) rfl) rfl)⟩, (List.forall_mem_cons.mpr ⟨⟨_, rfl, by decide, (xtt (List.mem_of_getElem? (i := 125) rfl) rfl)⟩, (List.forall_mem_cons.mpr ⟨⟨_, rfl, by decide, (xtt (List.mem_of_getElem? (i := 127) rfl) rfl)⟩, (List.forall_mem_cons.mpr ⟨⟨_, rfl, by decide, (xtt (List.mem_of_getElem? (i := 130) rfl) rfl)⟩, (List.forall_mem_cons.mpr ⟨⟨_, rfl, by decide, (xtt (List.mem_of_getElem? (i := 131) rfl) rfl)⟩, (List.forall_mem_cons.mpr ⟨⟨_, rfl, by decide, (xtt (List.mem_of_getElem? (i := 133) rfl) rfl)⟩, (List.forall_mem_cons.mpr ⟨⟨_, rfl, by decide, (xtt (List.mem_of_getElem? (i := 134) rfl) rfl)⟩, (List.forall_mem_cons.mpr ⟨⟨_, rfl, by decide, (xtt (List.mem_of_getElem? (i := 52) rfl) rfl)⟩, (List.forall_mem_cons.mpr ⟨⟨_, rfl, by decide, (xtt (List.mem_of_getElem? (i := 50) rfl) rfl)⟩, (List.forall_mem_cons.mpr ⟨⟨_, rfl, by decide, (xtt (List.mem_of_getElem? (i := 98) rfl) rfl)⟩, (fun _ h => absurd h List.not_mem_nil)⟩)⟩)⟩)⟩)⟩)⟩)⟩)⟩)⟩)⟩)⟩)
def xpX3 (i : Nat) : Option (Nat × Nat) := xplX3.lookup i
theorem xpX3_11 : xpX3 11 = some (3, 0) := rfl
theorem xpX3_17 : xpX3 17 = some (3, 1) := rfl
theorem xpX3_20 : xpX3 20 = some (3, 2) := rfl
theorem xpX3_24 : xpX3 24 = some (3, 3) := rfl
theorem xpX3_28 : xpX3 28 = some (3, 4) := rfl
theorem xpX3_32 : xpX3 32 = some (3, 5) := rfl
theorem xpX3_35 : xpX3 35 = some (3, 6) := rfl
theorem xpX3_38 : xpX3 38 = some (3, 7) := rfl
theorem xpX3_46 : xpX3 46 = some (4, 3) := rfl
theorem xpX3_49 : xpX3 49 = some (4, 1) := rfl
theorem xpX3_85 : xpX3 85 = some (1, 0) := rfl
def xclX3 : List (Nat × Value) := []
theorem xclX3_ok : ∀ q ∈ xclX3, xCstOK RX3 q := (fun _ h => absurd h List.not_mem_nil)
def xcX3 (i : Nat) : Option Value := xclX3.lookup i
def xplX4 : List (Nat × Nat × Nat) := [(11, 4, 0), (15, 4, 1), (20, 4, 5), (24, 4, 2), (27, 4, 3), (30, 4, 4), (33, 4, 6), (36, 4, 7), (71, 4, 8)]
set_option maxRecDepth 100000 in
theorem xplX4_ok : ∀ q ∈ xplX4, xPoolOK RX4 q := (List.forall_mem_cons.mpr ⟨⟨_, rfl, by decide, (xtt (List.mem_of_getElem? (i := 48) rfl) rfl)⟩, (List.forall_mem_cons.mpr ⟨⟨_, rfl, by decide, (xtt (List.mem_of_getElem? (i := 49) rfl) rfl)⟩, (List.forall_mem_cons.mpr ⟨⟨_, rfl, by decide, (xtt (List.mem_of_getElem? (i := 56) rfl) rfl)⟩, (List.forall_mem_cons.mpr ⟨⟨_, rfl, by decide, (xtt (List.mem_of_getElem? (i := 51) rfl) rfl)⟩, (List.forall_mem_cons.mpr ⟨⟨_, rfl, by decide, (xtt (List.mem_of_getElem? (i := 53) rfl) rfl)⟩, (List.forall_mem_cons.mpr ⟨⟨_, rfl, by decide, (xtt (List.mem_of_getElem? (i := 55) rfl) rfl)⟩, (List.forall_mem_cons.mpr ⟨⟨_, rfl, by decide, (xtt (List.mem_of_getElem? (i := 58) rfl) rfl)⟩, (List.forall_mem_cons.mpr ⟨⟨_, rfl, by decide, (xtt (List.mem_of_getElem? (i := 59) rfl) rfl)⟩, (List.forall_mem_cons.mpr ⟨⟨_, rfl, by decide, (xtt (List.mem_of_getElem? (i := 60) rfl) rfl)⟩, (fun _ h => absurd h List.not_mem_nil)⟩)⟩)⟩)⟩)⟩)⟩)⟩)⟩)⟩)
def xpX4 (i : Nat) : Option (Nat × Nat) := xplX4.lookup i
theorem xpX4_11 : xpX4 11 = some (4, 0) := rfl
theorem xpX4_15 : xpX4 15 = some (4, 1) := rfl
theorem xpX4_20 : xpX4 20 = some (4, 5) := rfl
theorem xpX4_24 : xpX4 24 = some (4, 2) := rfl
theorem xpX4_27 : xpX4 27 = some (4, 3) := rfl
theorem xpX4_30 : xpX4 30 = some (4, 4) := rfl
theorem xpX4_33 : xpX4 33 = some (4, 6) := rfl
theorem xpX4_36 : xpX4 36 = some (4, 7) := rfl
theorem xpX4_71 : xpX4 71 = some (4, 8) := rfl
def xclX4 : List (Nat × Value) := [(19, .int (-1000001))]
set_option maxRecDepth 100000 in
theorem xclX4_ok : ∀ q ∈ xclX4, xCstOK RX4 q := (List.forall_mem_cons.mpr ⟨Or.inl ⟨_, rfl, (xtt (List.mem_of_getElem? (i := 47) rfl) rfl)⟩, (fun _ h => absurd h List.not_mem_nil)⟩)
def xcX4 (i : Nat) : Option Value := xclX4.lookup i
theorem xcX4_19 : xcX4 19 = some (.int (-1000001)) := rfl
def xplX5 : List (Nat × Nat × Nat) := [(10, 5, 0), (19, 5, 1), (25, 3, 4), (32, 5, 2), (39, 5, 3), (60, 4, 4), (71, 3, 7), (74, 4, 5), (88, 1, 0), (100, 3, 0), (111, 3, 2), (114, 3, 3), (127, 3, 5)]
set_option maxRecDepth 100000 in
theorem xplX5_ok : ∀ q ∈ xplX5, xPoolOK RX5 q := (List.forall_mem_cons.mpr ⟨⟨_, rfl, by decide, (xtt (List.mem_of_getElem? (i := 196) rfl) rfl)⟩, (List.forall_mem_cons.mpr ⟨⟨_, rfl, by decide, (xtt (List.mem_of_getElem? (i := 197) rfl) rfl)⟩, (List.forall_mem_cons.mpr ⟨⟨_, rfl, by decide, (xtt (List.mem_of_getElem? (i := 129) rfl) rfl)⟩, (List.forall_mem_cons.mpr ⟨⟨_, rfl, by decide, (xtt (List.mem_of_getElem? (i := 198) rfl) rfl)⟩, (List.forall_mem_cons.mpr ⟨⟨_, rfl, by decide, (xtt (List.mem_of_getElem? (i := 199) rfl) rfl)⟩, (List.forall_mem_cons.mpr ⟨⟨_, rfl, by decide, (xtt (List.mem_of_getElem? (i := 54) rfl) rfl)⟩, (List.forall_mem_cons.mpr ⟨⟨_, rfl, by decide, (xtt (List.mem_of_getElem? (i := 135) rfl) rfl)⟩, (List.forall_mem_cons.mpr ⟨⟨_, rfl, by decide, (xtt (List.mem_of_getElem? (i := 57) rfl) rfl)⟩, (List.forall_mem_cons.mpr ⟨⟨_, rfl, by decide, (xtt (List.mem_of_getElem? (i := 97) rfl) rfl)⟩, (List.forall_mem_cons.mpr ⟨⟨_, rfl, by decide, (xtt (List.mem_of_getElem? (i := 123) rfl) rfl)⟩, (List.forall_mem_cons.mpr ⟨⟨_, rfl, by decide, (xtt (List.mem_of_getElem? (i := 126) rfl) rfl)⟩, (List.forall_mem_cons.mpr ⟨⟨_, rfl, by decide, (xtt (List.mem_of_getElem? (i := 128) rfl) rfl)⟩, (List.forall_mem_cons.mpr ⟨⟨_, rfl, by decide, (xtt (List.mem_of_getElem? (i := 132) rfl) rfl)⟩, (fun _ h => absurd h List.not_mem_nil)⟩)⟩)⟩)⟩)⟩)⟩)⟩)⟩)⟩)⟩)⟩)⟩)⟩)
def xpX5 (i : Nat) : Option (Nat × Nat) := xplX5.lookup i
theorem xpX5_10 : xpX5 10 = some (5, 0) := rfl
theorem xpX5_19 : xpX5 19 = some (5, 1) := rfl
theorem xpX5_25 : xpX5 25 = some (3, 4) := rfl
theorem xpX5_32 : xpX5 32 = some (5, 2) := rfl
theorem xpX5_39 : xpX5 39 = some (5, 3) := rfl
theorem xpX5_60 : xpX5 60 = some (4, 4) := rfl
theorem xpX5_71 : xpX5 71 = some (3, 7) := rfl
theorem xpX5_74 : xpX5 74 = some (4, 5) := rfl
theorem xpX5_88 : xpX5 88 = some (1, 0) := rfl
theorem xpX5_100 : xpX5 100 = some (3, 0) := rfl
theorem xpX5_111 : xpX5 111 = some (3, 2) := rfl
theorem xpX5_114 : xpX5 114 = some (3, 3) := rfl
theorem xpX5_127 : xpX5 127 = some (3, 5) := rfl
def xclX5 : List (Nat × Value) := [(47, .int (-1000003)), (52, .int (-1000005)), (80, .int (-1000002)), (165, .int (-1000004))]
set_option maxRecDepth 100000 in
theorem xclX5_ok : ∀ q ∈ xclX5, xCstOK RX5 q := (List.forall_mem_cons.mpr ⟨Or.inl ⟨_, rfl, (xtt (List.mem_of_getElem? (i := 216) rfl) rfl)⟩, (List.forall_mem_cons.mpr ⟨Or.inl ⟨_, rfl, (xtt (List.mem_of_getElem? (i := 221) rfl) rfl)⟩, (List.forall_mem_cons.mpr ⟨Or.inl ⟨_, rfl, (xtt (List.mem_of_getElem? (i := 339) rfl) rfl)⟩, (List.forall_mem_cons.mpr ⟨Or.inl ⟨_, rfl, (xtt (List.mem_of_getElem? (i := 485) rfl) rfl)⟩, (fun _ h => absurd h List.not_mem_nil)⟩)⟩)⟩)⟩)
def xcX5 (i : Nat) : Option Value := xclX5.lookup i
theorem xcX5_47 : xcX5 47 = some (.int (-1000003)) := rfl
theorem xcX5_52 : xcX5 52 = some (.int (-1000005)) := rfl
theorem xcX5_80 : xcX5 80 = some (.int (-1000002)) := rfl
theorem xcX5_165 : xcX5 165 = some (.int (-1000004)) := rfl
def xplX6 : List (Nat × Nat × Nat) := [(7, 6, 0), (19, 6, 1), (22, 6, 2), (26, 6, 4), (30, 6, 5), (33, 6, 6), (36, 6, 7), (39, 6, 8), (43, 6, 9), (46, 6, 11), (49, 6, 12), (52, 6, 13), (55, 6, 20), (58, 6, 25), (61, 6, 26), (64, 6, 27), (67, 6, 28), (70, 6, 29), (113, 6, 3), (117, 6, 18), (120, 6, 19), (123, 6, 14), (126, 6, 16), (129, 6, 15), (132, 6, 17), (139, 6, 21), (142, 6, 22)]
set_option maxRecDepth 100000 in
theorem xplX6_ok : ∀ q ∈ xplX6, xPoolOK RX6 q := (List.forall_mem_cons.mpr ⟨⟨_, rfl, by decide, (xtt (List.mem_of_getElem? (i := 499) rfl) rfl)⟩, (List.forall_mem_cons.mpr ⟨⟨_, rfl, by decide, (xtt (List.mem_of_getElem? (i := 500) rfl) rfl)⟩, (List.forall_mem_cons.mpr ⟨⟨_, rfl, by decide, (xtt (List.mem_of_getElem? (i := 501) rfl) rfl)⟩, (List.forall_mem_cons.mpr ⟨⟨_, rfl, by decide, (xtt (List.mem_of_getElem? (i := 503) rfl) rfl)⟩, (List.forall_mem_cons.mpr ⟨⟨_, rfl, by decide, (xtt (List.mem_of_getElem? (i := 504) rfl) rfl)⟩, (List.forall_mem_cons.mpr ⟨⟨_, rfl, by decide, (xtt (List.mem_of_getElem? (i := 505) rfl) rfl)⟩, (List.forall_mem_cons.mpr ⟨⟨_, rfl, by decide, (xtt (List.mem_of_getElem? (i := 506) rfl) rfl)⟩, (List.forall_mem_cons.mpr ⟨⟨_, rfl, by decide, (xtt (List.mem_of_getElem? (i := 507) rfl) rfl)⟩, (List.forall_mem_cons.mpr ⟨⟨_, rfl, by decide, (xtt (List.mem_of_getElem? (i := 508) rfl) rfl)⟩, (List.forall_mem_cons.mpr ⟨⟨_, rfl, by decide, (xtt (List.mem_of_getElem? (i := 509) rfl) rfl)⟩, (List.forall_mem_cons.mpr ⟨⟨_, rfl, by decide, (xtt (List.mem_of_getElem? (i := 510) rfl) rfl)⟩, (List.forall_mem_cons.mpr ⟨⟨_, rfl, by decide, (xtt (List.mem_of_getElem? (i := 511) rfl) rfl)⟩, (List.forall_mem_cons.mpr ⟨⟨_, rfl, by decide, (xtt (List.mem_of_getElem? (i := 518) rfl) rfl)⟩, (List.forall_mem_cons.mpr ⟨⟨_, rfl, by decide, (xtt (List.mem_of_getElem? (i := 521) rfl) rfl)⟩, (List.forall_mem_cons.mpr ⟨⟨_, rfl, by decide, (xtt (List.mem_of_getElem? (i := 522) rfl) rfl)⟩, (List.forall_mem_cons.mpr ⟨⟨_, rfl, by decide, (xtt (List.mem_of_getElem? (i := 523) rfl) rfl)⟩, (List.forall_mem_cons.mpr ⟨⟨_, rfl, by decide, (xtt (List.mem_of_getElem? (i := 524) rfl) rfl)⟩, (List.forall_mem_cons.mpr ⟨⟨_, rfl, by decide, (xtt (List.mem_of_getElem? (i := 525) rfl) rfl)⟩, (List.forall_mem_cons.mpr ⟨⟨_, rfl, by decide, (xtt (List.mem_of_getElem? (i := 502) rfl) rfl)⟩, (List.forall_mem_cons.mpr ⟨⟨_, rfl, by decide, (xtt (List.mem_of_getElem? (i := 516) rfl) rfl)⟩, (List.forall_mem_cons.mpr ⟨⟨_, rfl, by decide, (xtt (List.mem_of_getElem? (i := 517) rfl) rfl)⟩, (List.forall_mem_cons.mpr ⟨⟨_, rfl, by decide, (xtt (List.mem_of_getElem? (i := 512) rfl) rfl)⟩, (List.forall_mem_cons.mpr ⟨⟨_, rfl, by decide, (xtt (List.mem_of_getElem? (i := 514) rfl) rfl)⟩, (List.forall_mem_cons.mpr ⟨⟨_, rfl, by decide, (xtt (List.mem_of_getElem? (i := 513) rfl) rfl)⟩, (List.forall_mem_cons.mpr ⟨⟨_, rfl, by decide, (xtt (List.mem_of_getElem? (i := 515) rfl) rfl)⟩, (List.forall_mem_cons.mpr ⟨⟨_, rfl, by decide, (xtt (List.mem_of_getElem? (i := 519) rfl) rfl)⟩, (List.forall_mem_cons.mpr ⟨⟨_, rfl, by decide, (xtt (List.mem_of_getElem? (i := 520) rfl) rfl)⟩, (fun _ h => absurd h List.not_mem_nil)⟩)⟩)⟩)⟩)⟩)⟩)⟩)⟩)⟩)⟩)⟩)⟩)⟩)⟩)⟩)⟩)⟩)⟩)⟩)⟩)⟩)⟩)⟩)⟩)⟩)⟩)⟩)
def xpX6 (i : Nat) : Option (Nat × Nat) := xplX6.lookup i
theorem xpX6_7 : xpX6 7 = some (6, 0) := rfl
theorem xpX6_19 : xpX6 19 = some (6, 1) := rfl
theorem xpX6_22 : xpX6 22 = some (6, 2) := rfl
theorem xpX6_26 : xpX6 26 = some (6, 4) := rfl
theorem xpX6_30 : xpX6 30 = some (6, 5) := rfl
theorem xpX6_33 : xpX6 33 = some (6, 6) := rfl
theorem xpX6_36 : xpX6 36 = some (6, 7) := rfl
theorem xpX6_39 : xpX6 39 = some (6, 8) := rfl
theorem xpX6_43 : xpX6 43 = some (6, 9) := rfl
theorem xpX6_46 : xpX6 46 = some (6, 11) := rfl
theorem xpX6_49 : xpX6 49 = some (6, 12) := rfl
theorem xpX6_52 : xpX6 52 = some (6, 13) := rfl
theorem xpX6_55 : xpX6 55 = some (6, 20) := rfl
theorem xpX6_58 : xpX6 58 = some (6, 25) := rfl
theorem xpX6_61 : xpX6 61 = some (6, 26) := rfl
theorem xpX6_64 : xpX6 64 = some (6, 27) := rfl
theorem xpX6_67 : xpX6 67 = some (6, 28) := rfl
theorem xpX6_70 : xpX6 70 = some (6, 29) := rfl
theorem xpX6_113 : xpX6 113 = some (6, 3) := rfl
theorem xpX6_117 : xpX6 117 = some (6, 18) := rfl
theorem xpX6_120 : xpX6 120 = some (6, 19) := rfl
theorem xpX6_123 : xpX6 123 = some (6, 14) := rfl
theorem xpX6_126 : xpX6 126 = some (6, 16) := rfl
theorem xpX6_129 : xpX6 129 = some (6, 15) := rfl
theorem xpX6_132 : xpX6 132 = some (6, 17) := rfl
theorem xpX6_139 : xpX6 139 = some (6, 21) := rfl
theorem xpX6_142 : xpX6 142 = some (6, 22) := rfl
def xclX6 : List (Nat × Value) := [(13, .int (1048576)), (14, .int (1661954)), (15, .int (2434718)), (16, .int (2943725)), (17, .int (3627477)), (18, .int (3880192)), (25, .int (-1000001)), (73, .long (2147483648)), (79, .long (1000000000)), (85, .long (2)), (87, .long (-2)), (112, .int (-1000003)), (116, .int (-1000005)), (159, .int (-1000002)), (191, .int (-1000006)), (192, .int (-1000004))]
set_option maxRecDepth 100000 in
theorem xclX6_ok : ∀ q ∈ xclX6, xCstOK RX6 q := (List.forall_mem_cons.mpr ⟨Or.inl ⟨_, rfl, (xtt (List.mem_of_getElem? (i := 492) rfl) rfl)⟩, (List.forall_mem_cons.mpr ⟨Or.inl ⟨_, rfl, (xtt (List.mem_of_getElem? (i := 493) rfl) rfl)⟩, (List.forall_mem_cons.mpr ⟨Or.inl ⟨_, rfl, (xtt (List.mem_of_getElem? (i := 494) rfl) rfl)⟩, (List.forall_mem_cons.mpr ⟨Or.inl ⟨_, rfl, (xtt (List.mem_of_getElem? (i := 495) rfl) rfl)⟩, (List.forall_mem_cons.mpr ⟨Or.inl ⟨_, rfl, (xtt (List.mem_of_getElem? (i := 496) rfl) rfl)⟩, (List.forall_mem_cons.mpr ⟨Or.inl ⟨_, rfl, (xtt (List.mem_of_getElem? (i := 497) rfl) rfl)⟩, (List.forall_mem_cons.mpr ⟨Or.inl ⟨_, rfl, (xtt (List.mem_of_getElem? (i := 498) rfl) rfl)⟩, (List.forall_mem_cons.mpr ⟨Or.inr ⟨_, rfl, (xtt (List.mem_of_getElem? (i := 664) rfl) rfl)⟩, (List.forall_mem_cons.mpr ⟨Or.inr ⟨_, rfl, (xtt (List.mem_of_getElem? (i := 668) rfl) rfl)⟩, (List.forall_mem_cons.mpr ⟨Or.inr ⟨_, rfl, (xtt (List.mem_of_getElem? (i := 658) rfl) rfl)⟩, (List.forall_mem_cons.mpr ⟨Or.inr ⟨_, rfl, (xtt (List.mem_of_getElem? (i := 659) rfl) rfl)⟩, (List.forall_mem_cons.mpr ⟨Or.inl ⟨_, rfl, (xtt (List.mem_of_getElem? (i := 595) rfl) rfl)⟩, (List.forall_mem_cons.mpr ⟨Or.inl ⟨_, rfl, (xtt (List.mem_of_getElem? (i := 596) rfl) rfl)⟩, (List.forall_mem_cons.mpr ⟨Or.inl ⟨_, rfl, (xtt (List.mem_of_getElem? (i := 633) rfl) rfl)⟩, (List.forall_mem_cons.mpr ⟨Or.inl ⟨_, rfl, (xtt (List.mem_of_getElem? (i := 753) rfl) rfl)⟩, (List.forall_mem_cons.mpr ⟨Or.inl ⟨_, rfl, (xtt (List.mem_of_getElem? (i := 745) rfl) rfl)⟩, (fun _ h => absurd h List.not_mem_nil)⟩)⟩)⟩)⟩)⟩)⟩)⟩)⟩)⟩)⟩)⟩)⟩)⟩)⟩)⟩)⟩)
def xcX6 (i : Nat) : Option Value := xclX6.lookup i
theorem xcX6_13 : xcX6 13 = some (.int (1048576)) := rfl
theorem xcX6_14 : xcX6 14 = some (.int (1661954)) := rfl
theorem xcX6_15 : xcX6 15 = some (.int (2434718)) := rfl
theorem xcX6_16 : xcX6 16 = some (.int (2943725)) := rfl
theorem xcX6_17 : xcX6 17 = some (.int (3627477)) := rfl
theorem xcX6_18 : xcX6 18 = some (.int (3880192)) := rfl
theorem xcX6_25 : xcX6 25 = some (.int (-1000001)) := rfl
theorem xcX6_73 : xcX6 73 = some (.long (2147483648)) := rfl
theorem xcX6_79 : xcX6 79 = some (.long (1000000000)) := rfl
theorem xcX6_85 : xcX6 85 = some (.long (2)) := rfl
theorem xcX6_87 : xcX6 87 = some (.long (-2)) := rfl
theorem xcX6_112 : xcX6 112 = some (.int (-1000003)) := rfl
theorem xcX6_116 : xcX6 116 = some (.int (-1000005)) := rfl
theorem xcX6_159 : xcX6 159 = some (.int (-1000002)) := rfl
theorem xcX6_191 : xcX6 191 = some (.int (-1000006)) := rfl
theorem xcX6_192 : xcX6 192 = some (.int (-1000004)) := rfl
def xplL : List (Nat × Nat × Nat) := []
theorem xplL_ok : ∀ q ∈ xplL, xPoolOK RL q := (fun _ h => absurd h List.not_mem_nil)
def xpL (i : Nat) : Option (Nat × Nat) := xplL.lookup i
def xclL : List (Nat × Value) := []
theorem xclL_ok : ∀ q ∈ xclL, xCstOK RL q := (fun _ h => absurd h List.not_mem_nil)
def xcL (i : Nat) : Option Value := xclL.lookup i
/-- what the tables say of a call: of an instance's method, of a static one; n: how many arguments -/
def xCode (y : MethodName) (cy : ByteArray) (nL : Nat) (ret : Option FieldType) (n : Nat) : Prop := Cond.code y cy nL ret ∈ xTT ∧ Cond.initialized y.cls ∈ xTT ∧ y.cls ≠ "java/lang/invoke/MethodHandle" ∧ y.cls ≠ "java/lang/invoke/VarHandle" ∧ (parseMethodDescriptor y.desc).map (fun d => d.parameters.length) = some n ∧ nL ≤ 26
def xCV (own : String) (idx : Nat) (y : MethodName) : Prop := Cond.methodLink own idx y ∈ xTT ∧ Cond.instanceMethod y ∈ xTT ∧ Cond.selects y.cls y y ∈ xTT
def xCS (own : String) (idx : Nat) (y : MethodName) : Prop := Cond.methodLink own idx y ∈ xTT ∧ Cond.static y ∈ xTT
set_option maxRecDepth 100000 in
theorem xk_X5_init : xCode yX5_init cX5_init 1 none 0 := ⟨(xtt (List.mem_of_getElem? (i := 37) rfl) rfl), (xtt (List.mem_of_getElem? (i := 23) rfl) rfl), by decide, by decide, by decide +kernel, by decide⟩
set_option maxRecDepth 100000 in
theorem xk_X4_init : xCode yX4_init cX4_init 1 none 0 := ⟨(xtt (List.mem_of_getElem? (i := 45) rfl) rfl), (xtt (List.mem_of_getElem? (i := 24) rfl) rfl), by decide, by decide, by decide +kernel, by decide⟩
set_option maxRecDepth 100000 in
theorem xk_X3_init : xCode yX3_init cX3_init 2 none 0 := ⟨(xtt (List.mem_of_getElem? (i := 86) rfl) rfl), (xtt (List.mem_of_getElem? (i := 25) rfl) rfl), by decide, by decide, by decide +kernel, by decide⟩
set_option maxRecDepth 100000 in
theorem xk_X1_init : xCode yX1_init cX1_init 1 none 0 := ⟨(xtt (List.mem_of_getElem? (i := 93) rfl) rfl), (xtt (List.mem_of_getElem? (i := 26) rfl) rfl), by decide, by decide, by decide +kernel, by decide⟩
set_option maxRecDepth 100000 in
theorem xk_X1_addPrime : xCode yX1_addPrime cX1_addPrime 3 none 2 := ⟨(xtt (List.mem_of_getElem? (i := 114) rfl) rfl), (xtt (List.mem_of_getElem? (i := 26) rfl) rfl), by decide, by decide, by decide +kernel, by decide⟩
set_option maxRecDepth 100000 in
theorem xk_X1_carry : xCode yX1_carry cX1_carry 1 none 0 := ⟨(xtt (List.mem_of_getElem? (i := 120) rfl) rfl), (xtt (List.mem_of_getElem? (i := 26) rfl) rfl), by decide, by decide, by decide +kernel, by decide⟩
set_option maxRecDepth 100000 in
theorem xk_X2_init : xCode yX2_init cX2_init 2 none 1 := ⟨(xtt (List.mem_of_getElem? (i := 157) rfl) rfl), (xtt (List.mem_of_getElem? (i := 27) rfl) rfl), by decide, by decide, by decide +kernel, by decide⟩
set_option maxRecDepth 100000 in
theorem xk_J7_fill_53178 : xCode yJ7_fill_53178 cJ7_fill_53178 4 none 2 := ⟨(xtt (List.mem_of_getElem? (i := 164) rfl) rfl), (xtt (List.mem_of_getElem? (i := 28) rfl) rfl), by decide, by decide, by decide +kernel, by decide⟩
set_option maxRecDepth 100000 in
theorem xk_X0_init : xCode yX0_init cX0_init 1 none 0 := ⟨(xtt (List.mem_of_getElem? (i := 185) rfl) rfl), (xtt (List.mem_of_getElem? (i := 29) rfl) rfl), by decide, by decide, by decide +kernel, by decide⟩
set_option maxRecDepth 100000 in
theorem xk_X5_sign : xCode yX5_sign cX5_sign 2 (some .int) 1 := ⟨(xtt (List.mem_of_getElem? (i := 212) rfl) rfl), (xtt (List.mem_of_getElem? (i := 23) rfl) rfl), by decide, by decide, by decide +kernel, by decide⟩
set_option maxRecDepth 100000 in
theorem xk_X4_allows : xCode yX4_allows cX4_allows 1 (some .boolean) 1 := ⟨(xtt (List.mem_of_getElem? (i := 215) rfl) rfl), (xtt (List.mem_of_getElem? (i := 24) rfl) rfl), by decide, by decide, by decide +kernel, by decide⟩
set_option maxRecDepth 100000 in
theorem xk_X4_isFull : xCode yX4_isFull cX4_isFull 1 (some .boolean) 0 := ⟨(xtt (List.mem_of_getElem? (i := 220) rfl) rfl), (xtt (List.mem_of_getElem? (i := 24) rfl) rfl), by decide, by decide, by decide +kernel, by decide⟩
set_option maxRecDepth 100000 in
theorem xk_X4_append : xCode yX4_append cX4_append 2 (some .int) 1 := ⟨(xtt (List.mem_of_getElem? (i := 225) rfl) rfl), (xtt (List.mem_of_getElem? (i := 24) rfl) rfl), by decide, by decide, by decide +kernel, by decide⟩
set_option maxRecDepth 100000 in
theorem xk_X5_read : xCode yX5_read cX5_read 1 (some .int) 0 := ⟨(xtt (List.mem_of_getElem? (i := 229) rfl) rfl), (xtt (List.mem_of_getElem? (i := 23) rfl) rfl), by decide, by decide, by decide +kernel, by decide⟩
set_option maxRecDepth 100000 in
theorem xk_X4_scan : xCode yX4_scan cX4_scan 2 none 0 := ⟨(xtt (List.mem_of_getElem? (i := 233) rfl) rfl), (xtt (List.mem_of_getElem? (i := 24) rfl) rfl), by decide, by decide, by decide +kernel, by decide⟩
set_option maxRecDepth 100000 in
theorem xk_X4_takeAt : xCode yX4_takeAt cX4_takeAt 3 none 1 := ⟨(xtt (List.mem_of_getElem? (i := 237) rfl) rfl), (xtt (List.mem_of_getElem? (i := 24) rfl) rfl), by decide, by decide, by decide +kernel, by decide⟩
set_option maxRecDepth 100000 in
theorem xk_X4_isDigit : xCode yX4_isDigit cX4_isDigit 1 (some .boolean) 1 := ⟨(xtt (List.mem_of_getElem? (i := 240) rfl) rfl), (xtt (List.mem_of_getElem? (i := 24) rfl) rfl), by decide, by decide, by decide +kernel, by decide⟩
set_option maxRecDepth 100000 in
theorem xk_X4_takeNumber : xCode yX4_takeNumber cX4_takeNumber 4 none 1 := ⟨(xtt (List.mem_of_getElem? (i := 244) rfl) rfl), (xtt (List.mem_of_getElem? (i := 24) rfl) rfl), by decide, by decide, by decide +kernel, by decide⟩
set_option maxRecDepth 100000 in
theorem xk_X4_refuse : xCode yX4_refuse cX4_refuse 3 none 2 := ⟨(xtt (List.mem_of_getElem? (i := 248) rfl) rfl), (xtt (List.mem_of_getElem? (i := 24) rfl) rfl), by decide, by decide, by decide +kernel, by decide⟩
set_option maxRecDepth 100000 in
theorem xk_X4_multiply : xCode yX4_multiply cX4_multiply 9 none 3 := ⟨(xtt (List.mem_of_getElem? (i := 252) rfl) rfl), (xtt (List.mem_of_getElem? (i := 24) rfl) rfl), by decide, by decide, by decide +kernel, by decide⟩
set_option maxRecDepth 100000 in
theorem xk_X4_beginPitch : xCode yX4_beginPitch cX4_beginPitch 3 none 1 := ⟨(xtt (List.mem_of_getElem? (i := 258) rfl) rfl), (xtt (List.mem_of_getElem? (i := 24) rfl) rfl), by decide, by decide, by decide +kernel, by decide⟩
set_option maxRecDepth 100000 in
theorem xk_X4_takeSlash : xCode yX4_takeSlash cX4_takeSlash 2 none 1 := ⟨(xtt (List.mem_of_getElem? (i := 262) rfl) rfl), (xtt (List.mem_of_getElem? (i := 24) rfl) rfl), by decide, by decide, by decide +kernel, by decide⟩
set_option maxRecDepth 100000 in
theorem xk_X4_lineEnd : xCode yX4_lineEnd cX4_lineEnd 3 (some .int) 1 := ⟨(xtt (List.mem_of_getElem? (i := 266) rfl) rfl), (xtt (List.mem_of_getElem? (i := 24) rfl) rfl), by decide, by decide, by decide +kernel, by decide⟩
set_option maxRecDepth 100000 in
theorem xk_X4_takeEnd : xCode yX4_takeEnd cX4_takeEnd 1 none 0 := ⟨(xtt (List.mem_of_getElem? (i := 270) rfl) rfl), (xtt (List.mem_of_getElem? (i := 24) rfl) rfl), by decide, by decide, by decide +kernel, by decide⟩
set_option maxRecDepth 100000 in
theorem xk_X4_endsWithPeriod : xCode yX4_endsWithPeriod cX4_endsWithPeriod 6 (some .boolean) 0 := ⟨(xtt (List.mem_of_getElem? (i := 274) rfl) rfl), (xtt (List.mem_of_getElem? (i := 24) rfl) rfl), by decide, by decide, by decide +kernel, by decide⟩
set_option maxRecDepth 100000 in
theorem xk_X3_take : xCode yX3_take cX3_take 3 none 1 := ⟨(xtt (List.mem_of_getElem? (i := 278) rfl) rfl), (xtt (List.mem_of_getElem? (i := 25) rfl) rfl), by decide, by decide, by decide +kernel, by decide⟩
set_option maxRecDepth 100000 in
theorem xk_X3_setNote : xCode yX3_setNote cX3_setNote 4 none 3 := ⟨(xtt (List.mem_of_getElem? (i := 281) rfl) rfl), (xtt (List.mem_of_getElem? (i := 25) rfl) rfl), by decide, by decide, by decide +kernel, by decide⟩
set_option maxRecDepth 100000 in
theorem xk_X1_clear : xCode yX1_clear cX1_clear 1 none 0 := ⟨(xtt (List.mem_of_getElem? (i := 285) rfl) rfl), (xtt (List.mem_of_getElem? (i := 26) rfl) rfl), by decide, by decide, by decide +kernel, by decide⟩
set_option maxRecDepth 100000 in
theorem xk_X3_arrange : xCode yX3_arrange cX3_arrange 2 none 0 := ⟨(xtt (List.mem_of_getElem? (i := 290) rfl) rfl), (xtt (List.mem_of_getElem? (i := 25) rfl) rfl), by decide, by decide, by decide +kernel, by decide⟩
set_option maxRecDepth 100000 in
theorem xk_X1_timesOf : xCode yX1_timesOf cX1_timesOf 4 (some .int) 1 := ⟨(xtt (List.mem_of_getElem? (i := 294) rfl) rfl), (xtt (List.mem_of_getElem? (i := 26) rfl) rfl), by decide, by decide, by decide +kernel, by decide⟩
set_option maxRecDepth 100000 in
theorem xk_X1_isBelow : xCode yX1_isBelow cX1_isBelow 7 (some .boolean) 2 := ⟨(xtt (List.mem_of_getElem? (i := 298) rfl) rfl), (xtt (List.mem_of_getElem? (i := 26) rfl) rfl), by decide, by decide, by decide +kernel, by decide⟩
set_option maxRecDepth 100000 in
theorem xk_X1_timesBetween : xCode yX1_timesBetween cX1_timesBetween 6 (some .int) 3 := ⟨(xtt (List.mem_of_getElem? (i := 302) rfl) rfl), (xtt (List.mem_of_getElem? (i := 26) rfl) rfl), by decide, by decide, by decide +kernel, by decide⟩
set_option maxRecDepth 100000 in
theorem xk_X1_copyFrom : xCode yX1_copyFrom cX1_copyFrom 2 none 1 := ⟨(xtt (List.mem_of_getElem? (i := 306) rfl) rfl), (xtt (List.mem_of_getElem? (i := 26) rfl) rfl), by decide, by decide, by decide +kernel, by decide⟩
set_option maxRecDepth 100000 in
theorem xk_X1_addTimes : xCode yX1_addTimes cX1_addTimes 4 none 2 := ⟨(xtt (List.mem_of_getElem? (i := 313) rfl) rfl), (xtt (List.mem_of_getElem? (i := 26) rfl) rfl), by decide, by decide, by decide +kernel, by decide⟩
set_option maxRecDepth 100000 in
theorem xk_X3_sinkSorted : xCode yX3_sinkSorted cX3_sinkSorted 4 none 1 := ⟨(xtt (List.mem_of_getElem? (i := 317) rfl) rfl), (xtt (List.mem_of_getElem? (i := 25) rfl) rfl), by decide, by decide, by decide +kernel, by decide⟩
set_option maxRecDepth 100000 in
theorem xk_X2_forget : xCode yX2_forget cX2_forget 1 none 0 := ⟨(xtt (List.mem_of_getElem? (i := 322) rfl) rfl), (xtt (List.mem_of_getElem? (i := 27) rfl) rfl), by decide, by decide, by decide +kernel, by decide⟩
set_option maxRecDepth 100000 in
theorem xk_X5_place : xCode yX5_place cX5_place 1 (some .int) 0 := ⟨(xtt (List.mem_of_getElem? (i := 326) rfl) rfl), (xtt (List.mem_of_getElem? (i := 23) rfl) rfl), by decide, by decide, by decide +kernel, by decide⟩
set_option maxRecDepth 100000 in
theorem xk_X5_steps : xCode yX5_steps cX5_steps 1 (some .int) 0 := ⟨(xtt (List.mem_of_getElem? (i := 330) rfl) rfl), (xtt (List.mem_of_getElem? (i := 23) rfl) rfl), by decide, by decide, by decide +kernel, by decide⟩
set_option maxRecDepth 100000 in
theorem xk_X5_exponent : xCode yX5_exponent cX5_exponent 3 (some .int) 2 := ⟨(xtt (List.mem_of_getElem? (i := 334) rfl) rfl), (xtt (List.mem_of_getElem? (i := 23) rfl) rfl), by decide, by decide, by decide +kernel, by decide⟩
set_option maxRecDepth 100000 in
theorem xk_X5_isStepOrPeriod : xCode yX5_isStepOrPeriod cX5_isStepOrPeriod 2 (some .boolean) 1 := ⟨(xtt (List.mem_of_getElem? (i := 338) rfl) rfl), (xtt (List.mem_of_getElem? (i := 23) rfl) rfl), by decide, by decide, by decide +kernel, by decide⟩
set_option maxRecDepth 100000 in
theorem xk_X5_isPrime : xCode yX5_isPrime cX5_isPrime 1 (some .boolean) 1 := ⟨(xtt (List.mem_of_getElem? (i := 342) rfl) rfl), (xtt (List.mem_of_getElem? (i := 23) rfl) rfl), by decide, by decide, by decide +kernel, by decide⟩
set_option maxRecDepth 100000 in
theorem xk_X3_noteAt : xCode yX3_noteAt cX3_noteAt 2 (some (.object "TuningTables$Note")) 1 := ⟨(xtt (List.mem_of_getElem? (i := 346) rfl) rfl), (xtt (List.mem_of_getElem? (i := 25) rfl) rfl), by decide, by decide, by decide +kernel, by decide⟩
set_option maxRecDepth 100000 in
theorem xk_X5_key : xCode yX5_key cX5_key 5 (some .int) 2 := ⟨(xtt (List.mem_of_getElem? (i := 350) rfl) rfl), (xtt (List.mem_of_getElem? (i := 23) rfl) rfl), by decide, by decide, by decide +kernel, by decide⟩
set_option maxRecDepth 100000 in
theorem xk_J9_floorDiv_7cf53 : xCode yJ9_floorDiv_7cf53 cJ9_floorDiv_7cf53 3 (some .int) 2 := ⟨(xtt (List.mem_of_getElem? (i := 353) rfl) rfl), (xtt (List.mem_of_getElem? (i := 32) rfl) rfl), by decide, by decide, by decide +kernel, by decide⟩
set_option maxRecDepth 100000 in
theorem xk_X5_compare : xCode yX5_compare cX5_compare 5 (some .int) 2 := ⟨(xtt (List.mem_of_getElem? (i := 357) rfl) rfl), (xtt (List.mem_of_getElem? (i := 23) rfl) rfl), by decide, by decide, by decide +kernel, by decide⟩
set_option maxRecDepth 100000 in
theorem xk_X5_reduce : xCode yX5_reduce cX5_reduce 2 (some .int) 1 := ⟨(xtt (List.mem_of_getElem? (i := 362) rfl) rfl), (xtt (List.mem_of_getElem? (i := 23) rfl) rfl), by decide, by decide, by decide +kernel, by decide⟩
set_option maxRecDepth 100000 in
theorem xk_X5_isStep : xCode yX5_isStep cX5_isStep 2 (some .boolean) 1 := ⟨(xtt (List.mem_of_getElem? (i := 366) rfl) rfl), (xtt (List.mem_of_getElem? (i := 23) rfl) rfl), by decide, by decide, by decide +kernel, by decide⟩
set_option maxRecDepth 100000 in
theorem xk_X5_order : xCode yX5_order cX5_order 2 (some .int) 1 := ⟨(xtt (List.mem_of_getElem? (i := 370) rfl) rfl), (xtt (List.mem_of_getElem? (i := 23) rfl) rfl), by decide, by decide, by decide +kernel, by decide⟩
set_option maxRecDepth 100000 in
theorem xk_X5_gap : xCode yX5_gap cX5_gap 3 (some .int) 2 := ⟨(xtt (List.mem_of_getElem? (i := 374) rfl) rfl), (xtt (List.mem_of_getElem? (i := 23) rfl) rfl), by decide, by decide, by decide +kernel, by decide⟩
set_option maxRecDepth 100000 in
theorem xk_X3_gapExponent : xCode yX3_gapExponent cX3_gapExponent 4 (some .int) 2 := ⟨(xtt (List.mem_of_getElem? (i := 378) rfl) rfl), (xtt (List.mem_of_getElem? (i := 25) rfl) rfl), by decide, by decide, by decide +kernel, by decide⟩
set_option maxRecDepth 100000 in
theorem xk_X5_gaps : xCode yX5_gaps cX5_gaps 1 (some .int) 0 := ⟨(xtt (List.mem_of_getElem? (i := 382) rfl) rfl), (xtt (List.mem_of_getElem? (i := 23) rfl) rfl), by decide, by decide, by decide +kernel, by decide⟩
set_option maxRecDepth 100000 in
theorem xk_X3_differentGaps : xCode yX3_differentGaps cX3_differentGaps 3 (some .int) 0 := ⟨(xtt (List.mem_of_getElem? (i := 386) rfl) rfl), (xtt (List.mem_of_getElem? (i := 25) rfl) rfl), by decide, by decide, by decide +kernel, by decide⟩
set_option maxRecDepth 100000 in
theorem xk_X3_isGapBefore : xCode yX3_isGapBefore cX3_isGapBefore 3 (some .boolean) 1 := ⟨(xtt (List.mem_of_getElem? (i := 390) rfl) rfl), (xtt (List.mem_of_getElem? (i := 25) rfl) rfl), by decide, by decide, by decide +kernel, by decide⟩
set_option maxRecDepth 100000 in
theorem xk_X3_areSameGaps : xCode yX3_areSameGaps cX3_areSameGaps 4 (some .boolean) 2 := ⟨(xtt (List.mem_of_getElem? (i := 394) rfl) rfl), (xtt (List.mem_of_getElem? (i := 25) rfl) rfl), by decide, by decide, by decide +kernel, by decide⟩
set_option maxRecDepth 100000 in
theorem xk_X5_chain : xCode yX5_chain cX5_chain 9 (some .int) 7 := ⟨(xtt (List.mem_of_getElem? (i := 399) rfl) rfl), (xtt (List.mem_of_getElem? (i := 23) rfl) rfl), by decide, by decide, by decide +kernel, by decide⟩
set_option maxRecDepth 100000 in
theorem xk_X5_mayLink : xCode yX5_mayLink cX5_mayLink 1 (some .boolean) 1 := ⟨(xtt (List.mem_of_getElem? (i := 402) rfl) rfl), (xtt (List.mem_of_getElem? (i := 23) rfl) rfl), by decide, by decide, by decide +kernel, by decide⟩
set_option maxRecDepth 100000 in
theorem xk_X3_becomeChain : xCode yX3_becomeChain cX3_becomeChain 3 none 1 := ⟨(xtt (List.mem_of_getElem? (i := 408) rfl) rfl), (xtt (List.mem_of_getElem? (i := 25) rfl) rfl), by decide, by decide, by decide +kernel, by decide⟩
set_option maxRecDepth 100000 in
theorem xk_X3_sinkStep : xCode yX3_sinkStep cX3_sinkStep 4 none 1 := ⟨(xtt (List.mem_of_getElem? (i := 412) rfl) rfl), (xtt (List.mem_of_getElem? (i := 25) rfl) rfl), by decide, by decide, by decide +kernel, by decide⟩
set_option maxRecDepth 100000 in
theorem xk_X5_degree : xCode yX5_degree cX5_degree 3 (some .int) 2 := ⟨(xtt (List.mem_of_getElem? (i := 416) rfl) rfl), (xtt (List.mem_of_getElem? (i := 23) rfl) rfl), by decide, by decide, by decide +kernel, by decide⟩
set_option maxRecDepth 100000 in
theorem xk_X5_isPartCount : xCode yX5_isPartCount cX5_isPartCount 1 (some .boolean) 1 := ⟨(xtt (List.mem_of_getElem? (i := 419) rfl) rfl), (xtt (List.mem_of_getElem? (i := 23) rfl) rfl), by decide, by decide, by decide +kernel, by decide⟩
set_option maxRecDepth 100000 in
theorem xk_X2_nearest : xCode yX2_nearest cX2_nearest 3 (some .int) 2 := ⟨(xtt (List.mem_of_getElem? (i := 423) rfl) rfl), (xtt (List.mem_of_getElem? (i := 27) rfl) rfl), by decide, by decide, by decide +kernel, by decide⟩
set_option maxRecDepth 100000 in
theorem xk_X5_prime : xCode yX5_prime cX5_prime 3 (some .int) 2 := ⟨(xtt (List.mem_of_getElem? (i := 430) rfl) rfl), (xtt (List.mem_of_getElem? (i := 23) rfl) rfl), by decide, by decide, by decide +kernel, by decide⟩
set_option maxRecDepth 100000 in
theorem xk_X2_nearestToPrime : xCode yX2_nearestToPrime cX2_nearestToPrime 4 (some .int) 2 := ⟨(xtt (List.mem_of_getElem? (i := 434) rfl) rfl), (xtt (List.mem_of_getElem? (i := 27) rfl) rfl), by decide, by decide, by decide +kernel, by decide⟩
set_option maxRecDepth 100000 in
theorem xk_X5_makes : xCode yX5_makes cX5_makes 3 (some .int) 2 := ⟨(xtt (List.mem_of_getElem? (i := 441) rfl) rfl), (xtt (List.mem_of_getElem? (i := 23) rfl) rfl), by decide, by decide, by decide +kernel, by decide⟩
set_option maxRecDepth 100000 in
theorem xk_X2_sum : xCode yX2_sum cX2_sum 6 (some .int) 2 := ⟨(xtt (List.mem_of_getElem? (i := 445) rfl) rfl), (xtt (List.mem_of_getElem? (i := 27) rfl) rfl), by decide, by decide, by decide +kernel, by decide⟩
set_option maxRecDepth 100000 in
theorem xk_X5_tempers : xCode yX5_tempers cX5_tempers 2 (some .int) 1 := ⟨(xtt (List.mem_of_getElem? (i := 450) rfl) rfl), (xtt (List.mem_of_getElem? (i := 23) rfl) rfl), by decide, by decide, by decide +kernel, by decide⟩
set_option maxRecDepth 100000 in
theorem xk_X2_leastThatMakesNothing : xCode yX2_leastThatMakesNothing cX2_leastThatMakesNothing 3 (some .int) 1 := ⟨(xtt (List.mem_of_getElem? (i := 454) rfl) rfl), (xtt (List.mem_of_getElem? (i := 27) rfl) rfl), by decide, by decide, by decide +kernel, by decide⟩
set_option maxRecDepth 100000 in
theorem xk_X5_term : xCode yX5_term cX5_term 4 (some .int) 2 := ⟨(xtt (List.mem_of_getElem? (i := 459) rfl) rfl), (xtt (List.mem_of_getElem? (i := 23) rfl) rfl), by decide, by decide, by decide +kernel, by decide⟩
set_option maxRecDepth 100000 in
theorem xk_X1_isAboveUnison : xCode yX1_isAboveUnison cX1_isAboveUnison 1 (some .boolean) 0 := ⟨(xtt (List.mem_of_getElem? (i := 463) rfl) rfl), (xtt (List.mem_of_getElem? (i := 26) rfl) rfl), by decide, by decide, by decide +kernel, by decide⟩
set_option maxRecDepth 100000 in
theorem xk_X1_isUnison : xCode yX1_isUnison cX1_isUnison 1 (some .boolean) 0 := ⟨(xtt (List.mem_of_getElem? (i := 467) rfl) rfl), (xtt (List.mem_of_getElem? (i := 26) rfl) rfl), by decide, by decide, by decide +kernel, by decide⟩
set_option maxRecDepth 100000 in
theorem xk_X0_termAt : xCode yX0_termAt cX0_termAt 8 (some .int) 3 := ⟨(xtt (List.mem_of_getElem? (i := 471) rfl) rfl), (xtt (List.mem_of_getElem? (i := 29) rfl) rfl), by decide, by decide, by decide +kernel, by decide⟩
set_option maxRecDepth 100000 in
theorem xk_X0_takeTerm : xCode yX0_takeTerm cX0_takeTerm 3 (some .int) 2 := ⟨(xtt (List.mem_of_getElem? (i := 475) rfl) rfl), (xtt (List.mem_of_getElem? (i := 29) rfl) rfl), by decide, by decide, by decide +kernel, by decide⟩
set_option maxRecDepth 100000 in
theorem xk_X1_isWide : xCode yX1_isWide cX1_isWide 2 (some .boolean) 0 := ⟨(xtt (List.mem_of_getElem? (i := 479) rfl) rfl), (xtt (List.mem_of_getElem? (i := 26) rfl) rfl), by decide, by decide, by decide +kernel, by decide⟩
set_option maxRecDepth 100000 in
theorem xk_X6_init : xCode yX6_init cX6_init 1 none 0 := ⟨(xtt (List.mem_of_getElem? (i := 490) rfl) rfl), (xtt (List.mem_of_getElem? (i := 30) rfl) rfl), by decide, by decide, by decide +kernel, by decide⟩
set_option maxRecDepth 100000 in
theorem xk_X6_sign_ : xCode yX6_sign_ cX6_sign_ 2 (some .int) 1 := ⟨(xtt (List.mem_of_getElem? (i := 591) rfl) rfl), (xtt (List.mem_of_getElem? (i := 30) rfl) rfl), by decide, by decide, by decide +kernel, by decide⟩
set_option maxRecDepth 100000 in
theorem xk_X6_within : xCode yX6_within cX6_within 3 (some .boolean) 3 := ⟨(xtt (List.mem_of_getElem? (i := 594) rfl) rfl), (xtt (List.mem_of_getElem? (i := 30) rfl) rfl), by decide, by decide, by decide +kernel, by decide⟩
set_option maxRecDepth 100000 in
theorem xk_X6_read : xCode yX6_read cX6_read 2 (some .int) 0 := ⟨(xtt (List.mem_of_getElem? (i := 600) rfl) rfl), (xtt (List.mem_of_getElem? (i := 30) rfl) rfl), by decide, by decide, by decide +kernel, by decide⟩
set_option maxRecDepth 100000 in
theorem xk_X6_next : xCode yX6_next cX6_next 3 none 0 := ⟨(xtt (List.mem_of_getElem? (i := 604) rfl) rfl), (xtt (List.mem_of_getElem? (i := 30) rfl) rfl), by decide, by decide, by decide +kernel, by decide⟩
set_option maxRecDepth 100000 in
theorem xk_X6_fails : xCode yX6_fails cX6_fails 3 none 2 := ⟨(xtt (List.mem_of_getElem? (i := 608) rfl) rfl), (xtt (List.mem_of_getElem? (i := 30) rfl) rfl), by decide, by decide, by decide +kernel, by decide⟩
set_option maxRecDepth 100000 in
theorem xk_X6_readPitch : xCode yX6_readPitch cX6_readPitch 2 none 0 := ⟨(xtt (List.mem_of_getElem? (i := 612) rfl) rfl), (xtt (List.mem_of_getElem? (i := 30) rfl) rfl), by decide, by decide, by decide +kernel, by decide⟩
set_option maxRecDepth 100000 in
theorem xk_X6_factor : xCode yX6_factor cX6_factor 4 none 1 := ⟨(xtt (List.mem_of_getElem? (i := 616) rfl) rfl), (xtt (List.mem_of_getElem? (i := 30) rfl) rfl), by decide, by decide, by decide +kernel, by decide⟩
set_option maxRecDepth 100000 in
theorem xk_X6_whole : xCode yX6_whole cX6_whole 6 (some .int) 1 := ⟨(xtt (List.mem_of_getElem? (i := 620) rfl) rfl), (xtt (List.mem_of_getElem? (i := 30) rfl) rfl), by decide, by decide, by decide +kernel, by decide⟩
set_option maxRecDepth 100000 in
theorem xk_X6_place : xCode yX6_place cX6_place 1 (some .int) 0 := ⟨(xtt (List.mem_of_getElem? (i := 624) rfl) rfl), (xtt (List.mem_of_getElem? (i := 30) rfl) rfl), by decide, by decide, by decide +kernel, by decide⟩
set_option maxRecDepth 100000 in
theorem xk_X6_steps : xCode yX6_steps cX6_steps 1 (some .int) 0 := ⟨(xtt (List.mem_of_getElem? (i := 628) rfl) rfl), (xtt (List.mem_of_getElem? (i := 30) rfl) rfl), by decide, by decide, by decide +kernel, by decide⟩
set_option maxRecDepth 100000 in
theorem xk_X6_exponent : xCode yX6_exponent cX6_exponent 3 (some .int) 2 := ⟨(xtt (List.mem_of_getElem? (i := 632) rfl) rfl), (xtt (List.mem_of_getElem? (i := 30) rfl) rfl), by decide, by decide, by decide +kernel, by decide⟩
set_option maxRecDepth 100000 in
theorem xk_X6_take : xCode yX6_take cX6_take 4 none 2 := ⟨(xtt (List.mem_of_getElem? (i := 637) rfl) rfl), (xtt (List.mem_of_getElem? (i := 30) rfl) rfl), by decide, by decide, by decide +kernel, by decide⟩
set_option maxRecDepth 100000 in
theorem xk_X6_key : xCode yX6_key cX6_key 5 (some .int) 2 := ⟨(xtt (List.mem_of_getElem? (i := 641) rfl) rfl), (xtt (List.mem_of_getElem? (i := 30) rfl) rfl), by decide, by decide, by decide +kernel, by decide⟩
set_option maxRecDepth 100000 in
theorem xk_X6_compare : xCode yX6_compare cX6_compare 3 (some .int) 2 := ⟨(xtt (List.mem_of_getElem? (i := 645) rfl) rfl), (xtt (List.mem_of_getElem? (i := 30) rfl) rfl), by decide, by decide, by decide +kernel, by decide⟩
set_option maxRecDepth 100000 in
theorem xk_X6_signOf : xCode yX6_signOf cX6_signOf 6 (some .int) 4 := ⟨(xtt (List.mem_of_getElem? (i := 649) rfl) rfl), (xtt (List.mem_of_getElem? (i := 30) rfl) rfl), by decide, by decide, by decide +kernel, by decide⟩
set_option maxRecDepth 100000 in
theorem xk_X6_sign : xCode yX6_sign cX6_sign 9 (some .int) 1 := ⟨(xtt (List.mem_of_getElem? (i := 653) rfl) rfl), (xtt (List.mem_of_getElem? (i := 30) rfl) rfl), by decide, by decide, by decide +kernel, by decide⟩
set_option maxRecDepth 100000 in
theorem xk_X6_logOf : xCode yX6_logOf cX6_logOf 5 (some .long) 1 := ⟨(xtt (List.mem_of_getElem? (i := 657) rfl) rfl), (xtt (List.mem_of_getElem? (i := 30) rfl) rfl), by decide, by decide, by decide +kernel, by decide⟩
set_option maxRecDepth 100000 in
theorem xk_X6_lay : xCode yX6_lay cX6_lay 9 (some .int) 3 := ⟨(xtt (List.mem_of_getElem? (i := 663) rfl) rfl), (xtt (List.mem_of_getElem? (i := 30) rfl) rfl), by decide, by decide, by decide +kernel, by decide⟩
set_option maxRecDepth 100000 in
theorem xk_X6_multiply : xCode yX6_multiply cX6_multiply 9 (some .int) 3 := ⟨(xtt (List.mem_of_getElem? (i := 667) rfl) rfl), (xtt (List.mem_of_getElem? (i := 30) rfl) rfl), by decide, by decide, by decide +kernel, by decide⟩
set_option maxRecDepth 100000 in
theorem xk_X6_reduce : xCode yX6_reduce cX6_reduce 2 (some .int) 1 := ⟨(xtt (List.mem_of_getElem? (i := 672) rfl) rfl), (xtt (List.mem_of_getElem? (i := 30) rfl) rfl), by decide, by decide, by decide +kernel, by decide⟩
set_option maxRecDepth 100000 in
theorem xk_X6_isStep : xCode yX6_isStep cX6_isStep 2 (some .boolean) 1 := ⟨(xtt (List.mem_of_getElem? (i := 676) rfl) rfl), (xtt (List.mem_of_getElem? (i := 30) rfl) rfl), by decide, by decide, by decide +kernel, by decide⟩
set_option maxRecDepth 100000 in
theorem xk_X6_periodsIn : xCode yX6_periodsIn cX6_periodsIn 3 (some .int) 1 := ⟨(xtt (List.mem_of_getElem? (i := 680) rfl) rfl), (xtt (List.mem_of_getElem? (i := 30) rfl) rfl), by decide, by decide, by decide +kernel, by decide⟩
set_option maxRecDepth 100000 in
theorem xk_X6_order : xCode yX6_order cX6_order 2 (some .int) 1 := ⟨(xtt (List.mem_of_getElem? (i := 684) rfl) rfl), (xtt (List.mem_of_getElem? (i := 30) rfl) rfl), by decide, by decide, by decide +kernel, by decide⟩
set_option maxRecDepth 100000 in
theorem xk_X6_orderAll : xCode yX6_orderAll cX6_orderAll 5 none 0 := ⟨(xtt (List.mem_of_getElem? (i := 688) rfl) rfl), (xtt (List.mem_of_getElem? (i := 30) rfl) rfl), by decide, by decide, by decide +kernel, by decide⟩
set_option maxRecDepth 100000 in
theorem xk_X6_reduced : xCode yX6_reduced cX6_reduced 5 none 2 := ⟨(xtt (List.mem_of_getElem? (i := 692) rfl) rfl), (xtt (List.mem_of_getElem? (i := 30) rfl) rfl), by decide, by decide, by decide +kernel, by decide⟩
set_option maxRecDepth 100000 in
theorem xk_X6_compareReduced : xCode yX6_compareReduced cX6_compareReduced 4 (some .int) 2 := ⟨(xtt (List.mem_of_getElem? (i := 696) rfl) rfl), (xtt (List.mem_of_getElem? (i := 30) rfl) rfl), by decide, by decide, by decide +kernel, by decide⟩
set_option maxRecDepth 100000 in
theorem xk_X6_gap : xCode yX6_gap cX6_gap 3 (some .int) 2 := ⟨(xtt (List.mem_of_getElem? (i := 700) rfl) rfl), (xtt (List.mem_of_getElem? (i := 30) rfl) rfl), by decide, by decide, by decide +kernel, by decide⟩
set_option maxRecDepth 100000 in
theorem xk_X6_gapAt : xCode yX6_gapAt cX6_gapAt 4 (some .int) 2 := ⟨(xtt (List.mem_of_getElem? (i := 704) rfl) rfl), (xtt (List.mem_of_getElem? (i := 30) rfl) rfl), by decide, by decide, by decide +kernel, by decide⟩
set_option maxRecDepth 100000 in
theorem xk_X6_gaps : xCode yX6_gaps cX6_gaps 7 (some .int) 0 := ⟨(xtt (List.mem_of_getElem? (i := 708) rfl) rfl), (xtt (List.mem_of_getElem? (i := 30) rfl) rfl), by decide, by decide, by decide +kernel, by decide⟩
set_option maxRecDepth 100000 in
theorem xk_X6_chain : xCode yX6_chain cX6_chain 11 (some .int) 7 := ⟨(xtt (List.mem_of_getElem? (i := 712) rfl) rfl), (xtt (List.mem_of_getElem? (i := 30) rfl) rfl), by decide, by decide, by decide +kernel, by decide⟩
set_option maxRecDepth 100000 in
theorem xk_X6_degree : xCode yX6_degree cX6_degree 3 (some .int) 2 := ⟨(xtt (List.mem_of_getElem? (i := 716) rfl) rfl), (xtt (List.mem_of_getElem? (i := 30) rfl) rfl), by decide, by decide, by decide +kernel, by decide⟩
set_option maxRecDepth 100000 in
theorem xk_X6_degreeOf : xCode yX6_degreeOf cX6_degreeOf 4 (some .int) 2 := ⟨(xtt (List.mem_of_getElem? (i := 720) rfl) rfl), (xtt (List.mem_of_getElem? (i := 30) rfl) rfl), by decide, by decide, by decide +kernel, by decide⟩
set_option maxRecDepth 100000 in
theorem xk_X6_prime : xCode yX6_prime cX6_prime 3 (some .int) 2 := ⟨(xtt (List.mem_of_getElem? (i := 724) rfl) rfl), (xtt (List.mem_of_getElem? (i := 30) rfl) rfl), by decide, by decide, by decide +kernel, by decide⟩
set_option maxRecDepth 100000 in
theorem xk_X6_primeDegree : xCode yX6_primeDegree cX6_primeDegree 4 (some .int) 2 := ⟨(xtt (List.mem_of_getElem? (i := 728) rfl) rfl), (xtt (List.mem_of_getElem? (i := 30) rfl) rfl), by decide, by decide, by decide +kernel, by decide⟩
set_option maxRecDepth 100000 in
theorem xk_X6_makes : xCode yX6_makes cX6_makes 3 (some .int) 2 := ⟨(xtt (List.mem_of_getElem? (i := 732) rfl) rfl), (xtt (List.mem_of_getElem? (i := 30) rfl) rfl), by decide, by decide, by decide +kernel, by decide⟩
set_option maxRecDepth 100000 in
theorem xk_X6_made : xCode yX6_made cX6_made 5 (some .int) 2 := ⟨(xtt (List.mem_of_getElem? (i := 736) rfl) rfl), (xtt (List.mem_of_getElem? (i := 30) rfl) rfl), by decide, by decide, by decide +kernel, by decide⟩
set_option maxRecDepth 100000 in
theorem xk_X6_tempers : xCode yX6_tempers cX6_tempers 3 (some .int) 1 := ⟨(xtt (List.mem_of_getElem? (i := 740) rfl) rfl), (xtt (List.mem_of_getElem? (i := 30) rfl) rfl), by decide, by decide, by decide +kernel, by decide⟩
set_option maxRecDepth 100000 in
theorem xk_X6_term : xCode yX6_term cX6_term 7 (some .int) 2 := ⟨(xtt (List.mem_of_getElem? (i := 744) rfl) rfl), (xtt (List.mem_of_getElem? (i := 30) rfl) rfl), by decide, by decide, by decide +kernel, by decide⟩
set_option maxRecDepth 100000 in
theorem xk_X6_takeTerm : xCode yX6_takeTerm cX6_takeTerm 3 (some .int) 0 := ⟨(xtt (List.mem_of_getElem? (i := 749) rfl) rfl), (xtt (List.mem_of_getElem? (i := 30) rfl) rfl), by decide, by decide, by decide +kernel, by decide⟩
set_option maxRecDepth 100000 in
theorem xk_X6_isWide : xCode yX6_isWide cX6_isWide 3 (some .boolean) 1 := ⟨(xtt (List.mem_of_getElem? (i := 752) rfl) rfl), (xtt (List.mem_of_getElem? (i := 30) rfl) rfl), by decide, by decide, by decide +kernel, by decide⟩
set_option maxRecDepth 100000 in
theorem xl_L_9 : Cond.methodLink RL 9 yX5_init ∈ xTT ∧ Cond.instanceMethod yX5_init ∈ xTT := ⟨(xtt (List.mem_of_getElem? (i := 35) rfl) rfl), (xtt (List.mem_of_getElem? (i := 36) rfl) rfl)⟩
set_option maxRecDepth 100000 in
theorem xl_X5_18 : Cond.methodLink RX5 18 yX3_init ∈ xTT ∧ Cond.instanceMethod yX3_init ∈ xTT := ⟨(xtt (List.mem_of_getElem? (i := 84) rfl) rfl), (xtt (List.mem_of_getElem? (i := 85) rfl) rfl)⟩
set_option maxRecDepth 100000 in
theorem xl_X3_42 : xCV RX3 42 yX1_addPrime := ⟨(xtt (List.mem_of_getElem? (i := 111) rfl) rfl), (xtt (List.mem_of_getElem? (i := 112) rfl) rfl), (xtt (List.mem_of_getElem? (i := 113) rfl) rfl)⟩
set_option maxRecDepth 100000 in
theorem xl_X1_41 : xCV RX1 41 yX1_carry := ⟨(xtt (List.mem_of_getElem? (i := 117) rfl) rfl), (xtt (List.mem_of_getElem? (i := 118) rfl) rfl), (xtt (List.mem_of_getElem? (i := 119) rfl) rfl)⟩
set_option maxRecDepth 100000 in
theorem xl_X5_29 : Cond.methodLink RX5 29 yX2_init ∈ xTT ∧ Cond.instanceMethod yX2_init ∈ xTT := ⟨(xtt (List.mem_of_getElem? (i := 155) rfl) rfl), (xtt (List.mem_of_getElem? (i := 156) rfl) rfl)⟩
set_option maxRecDepth 100000 in
theorem xl_X2_32 : xCS RX2 32 yJ7_fill_53178 := ⟨(xtt (List.mem_of_getElem? (i := 162) rfl) rfl), (xtt (List.mem_of_getElem? (i := 163) rfl) rfl)⟩
set_option maxRecDepth 100000 in
theorem xl_L_13 : xCV RL 13 yX5_sign := ⟨(xtt (List.mem_of_getElem? (i := 209) rfl) rfl), (xtt (List.mem_of_getElem? (i := 210) rfl) rfl), (xtt (List.mem_of_getElem? (i := 211) rfl) rfl)⟩
set_option maxRecDepth 100000 in
theorem xl_X5_43 : xCS RX5 43 yX4_allows := ⟨(xtt (List.mem_of_getElem? (i := 213) rfl) rfl), (xtt (List.mem_of_getElem? (i := 214) rfl) rfl)⟩
set_option maxRecDepth 100000 in
theorem xl_X5_48 : xCV RX5 48 yX4_isFull := ⟨(xtt (List.mem_of_getElem? (i := 217) rfl) rfl), (xtt (List.mem_of_getElem? (i := 218) rfl) rfl), (xtt (List.mem_of_getElem? (i := 219) rfl) rfl)⟩
set_option maxRecDepth 100000 in
theorem xl_X5_53 : xCV RX5 53 yX4_append := ⟨(xtt (List.mem_of_getElem? (i := 222) rfl) rfl), (xtt (List.mem_of_getElem? (i := 223) rfl) rfl), (xtt (List.mem_of_getElem? (i := 224) rfl) rfl)⟩
set_option maxRecDepth 100000 in
theorem xl_L_18 : xCV RL 18 yX5_read := ⟨(xtt (List.mem_of_getElem? (i := 226) rfl) rfl), (xtt (List.mem_of_getElem? (i := 227) rfl) rfl), (xtt (List.mem_of_getElem? (i := 228) rfl) rfl)⟩
set_option maxRecDepth 100000 in
theorem xl_X5_57 : xCV RX5 57 yX4_scan := ⟨(xtt (List.mem_of_getElem? (i := 230) rfl) rfl), (xtt (List.mem_of_getElem? (i := 231) rfl) rfl), (xtt (List.mem_of_getElem? (i := 232) rfl) rfl)⟩
set_option maxRecDepth 100000 in
theorem xl_X4_39 : xCV RX4 39 yX4_takeAt := ⟨(xtt (List.mem_of_getElem? (i := 234) rfl) rfl), (xtt (List.mem_of_getElem? (i := 235) rfl) rfl), (xtt (List.mem_of_getElem? (i := 236) rfl) rfl)⟩
set_option maxRecDepth 100000 in
theorem xl_X4_46 : xCS RX4 46 yX4_isDigit := ⟨(xtt (List.mem_of_getElem? (i := 238) rfl) rfl), (xtt (List.mem_of_getElem? (i := 239) rfl) rfl)⟩
set_option maxRecDepth 100000 in
theorem xl_X4_50 : xCV RX4 50 yX4_takeNumber := ⟨(xtt (List.mem_of_getElem? (i := 241) rfl) rfl), (xtt (List.mem_of_getElem? (i := 242) rfl) rfl), (xtt (List.mem_of_getElem? (i := 243) rfl) rfl)⟩
set_option maxRecDepth 100000 in
theorem xl_X4_60 : xCV RX4 60 yX4_refuse := ⟨(xtt (List.mem_of_getElem? (i := 245) rfl) rfl), (xtt (List.mem_of_getElem? (i := 246) rfl) rfl), (xtt (List.mem_of_getElem? (i := 247) rfl) rfl)⟩
set_option maxRecDepth 100000 in
theorem xl_X4_64 : xCV RX4 64 yX4_multiply := ⟨(xtt (List.mem_of_getElem? (i := 249) rfl) rfl), (xtt (List.mem_of_getElem? (i := 250) rfl) rfl), (xtt (List.mem_of_getElem? (i := 251) rfl) rfl)⟩
set_option maxRecDepth 100000 in
theorem xl_X4_68 : xCV RX4 68 yX4_beginPitch := ⟨(xtt (List.mem_of_getElem? (i := 255) rfl) rfl), (xtt (List.mem_of_getElem? (i := 256) rfl) rfl), (xtt (List.mem_of_getElem? (i := 257) rfl) rfl)⟩
set_option maxRecDepth 100000 in
theorem xl_X4_53 : xCV RX4 53 yX4_takeSlash := ⟨(xtt (List.mem_of_getElem? (i := 259) rfl) rfl), (xtt (List.mem_of_getElem? (i := 260) rfl) rfl), (xtt (List.mem_of_getElem? (i := 261) rfl) rfl)⟩
set_option maxRecDepth 100000 in
theorem xl_X4_56 : xCV RX4 56 yX4_lineEnd := ⟨(xtt (List.mem_of_getElem? (i := 263) rfl) rfl), (xtt (List.mem_of_getElem? (i := 264) rfl) rfl), (xtt (List.mem_of_getElem? (i := 265) rfl) rfl)⟩
set_option maxRecDepth 100000 in
theorem xl_X4_43 : xCV RX4 43 yX4_takeEnd := ⟨(xtt (List.mem_of_getElem? (i := 267) rfl) rfl), (xtt (List.mem_of_getElem? (i := 268) rfl) rfl), (xtt (List.mem_of_getElem? (i := 269) rfl) rfl)⟩
set_option maxRecDepth 100000 in
theorem xl_X4_77 : xCV RX4 77 yX4_endsWithPeriod := ⟨(xtt (List.mem_of_getElem? (i := 271) rfl) rfl), (xtt (List.mem_of_getElem? (i := 272) rfl) rfl), (xtt (List.mem_of_getElem? (i := 273) rfl) rfl)⟩
set_option maxRecDepth 100000 in
theorem xl_X5_64 : xCV RX5 64 yX3_take := ⟨(xtt (List.mem_of_getElem? (i := 275) rfl) rfl), (xtt (List.mem_of_getElem? (i := 276) rfl) rfl), (xtt (List.mem_of_getElem? (i := 277) rfl) rfl)⟩
set_option maxRecDepth 100000 in
theorem xl_X3_52 : xCS RX3 52 yX3_setNote := ⟨(xtt (List.mem_of_getElem? (i := 279) rfl) rfl), (xtt (List.mem_of_getElem? (i := 280) rfl) rfl)⟩
set_option maxRecDepth 100000 in
theorem xl_X3_59 : xCV RX3 59 yX1_clear := ⟨(xtt (List.mem_of_getElem? (i := 282) rfl) rfl), (xtt (List.mem_of_getElem? (i := 283) rfl) rfl), (xtt (List.mem_of_getElem? (i := 284) rfl) rfl)⟩
set_option maxRecDepth 100000 in
theorem xl_X1_15 : xCS RX1 15 yJ7_fill_53178 := ⟨(xtt (List.mem_of_getElem? (i := 286) rfl) rfl), (xtt (List.mem_of_getElem? (i := 163) rfl) rfl)⟩
set_option maxRecDepth 100000 in
theorem xl_X3_56 : xCV RX3 56 yX3_arrange := ⟨(xtt (List.mem_of_getElem? (i := 287) rfl) rfl), (xtt (List.mem_of_getElem? (i := 288) rfl) rfl), (xtt (List.mem_of_getElem? (i := 289) rfl) rfl)⟩
set_option maxRecDepth 100000 in
theorem xl_X3_62 : xCV RX3 62 yX1_timesOf := ⟨(xtt (List.mem_of_getElem? (i := 291) rfl) rfl), (xtt (List.mem_of_getElem? (i := 292) rfl) rfl), (xtt (List.mem_of_getElem? (i := 293) rfl) rfl)⟩
set_option maxRecDepth 100000 in
theorem xl_X1_50 : xCV RX1 50 yX1_isBelow := ⟨(xtt (List.mem_of_getElem? (i := 295) rfl) rfl), (xtt (List.mem_of_getElem? (i := 296) rfl) rfl), (xtt (List.mem_of_getElem? (i := 297) rfl) rfl)⟩
set_option maxRecDepth 100000 in
theorem xl_X1_54 : xCV RX1 54 yX1_timesBetween := ⟨(xtt (List.mem_of_getElem? (i := 299) rfl) rfl), (xtt (List.mem_of_getElem? (i := 300) rfl) rfl), (xtt (List.mem_of_getElem? (i := 301) rfl) rfl)⟩
set_option maxRecDepth 100000 in
theorem xl_X3_70 : xCV RX3 70 yX1_copyFrom := ⟨(xtt (List.mem_of_getElem? (i := 303) rfl) rfl), (xtt (List.mem_of_getElem? (i := 304) rfl) rfl), (xtt (List.mem_of_getElem? (i := 305) rfl) rfl)⟩
set_option maxRecDepth 100000 in
theorem xl_X3_66 : xCV RX3 66 yX1_addTimes := ⟨(xtt (List.mem_of_getElem? (i := 310) rfl) rfl), (xtt (List.mem_of_getElem? (i := 311) rfl) rfl), (xtt (List.mem_of_getElem? (i := 312) rfl) rfl)⟩
set_option maxRecDepth 100000 in
theorem xl_X3_82 : xCV RX3 82 yX3_sinkSorted := ⟨(xtt (List.mem_of_getElem? (i := 314) rfl) rfl), (xtt (List.mem_of_getElem? (i := 315) rfl) rfl), (xtt (List.mem_of_getElem? (i := 316) rfl) rfl)⟩
set_option maxRecDepth 100000 in
theorem xl_X3_78 : xCV RX3 78 yX1_isBelow := ⟨(xtt (List.mem_of_getElem? (i := 318) rfl) rfl), (xtt (List.mem_of_getElem? (i := 296) rfl) rfl), (xtt (List.mem_of_getElem? (i := 297) rfl) rfl)⟩
set_option maxRecDepth 100000 in
theorem xl_X5_68 : xCV RX5 68 yX2_forget := ⟨(xtt (List.mem_of_getElem? (i := 319) rfl) rfl), (xtt (List.mem_of_getElem? (i := 320) rfl) rfl), (xtt (List.mem_of_getElem? (i := 321) rfl) rfl)⟩
set_option maxRecDepth 100000 in
theorem xl_L_23 : xCV RL 23 yX5_place := ⟨(xtt (List.mem_of_getElem? (i := 323) rfl) rfl), (xtt (List.mem_of_getElem? (i := 324) rfl) rfl), (xtt (List.mem_of_getElem? (i := 325) rfl) rfl)⟩
set_option maxRecDepth 100000 in
theorem xl_L_27 : xCV RL 27 yX5_steps := ⟨(xtt (List.mem_of_getElem? (i := 327) rfl) rfl), (xtt (List.mem_of_getElem? (i := 328) rfl) rfl), (xtt (List.mem_of_getElem? (i := 329) rfl) rfl)⟩
set_option maxRecDepth 100000 in
theorem xl_L_31 : xCV RL 31 yX5_exponent := ⟨(xtt (List.mem_of_getElem? (i := 331) rfl) rfl), (xtt (List.mem_of_getElem? (i := 332) rfl) rfl), (xtt (List.mem_of_getElem? (i := 333) rfl) rfl)⟩
set_option maxRecDepth 100000 in
theorem xl_X5_77 : xCV RX5 77 yX5_isStepOrPeriod := ⟨(xtt (List.mem_of_getElem? (i := 335) rfl) rfl), (xtt (List.mem_of_getElem? (i := 337) rfl) rfl), (xtt (List.mem_of_getElem? (i := 0) rfl) rfl)⟩
set_option maxRecDepth 100000 in
theorem xl_X5_81 : xCS RX5 81 yX5_isPrime := ⟨(xtt (List.mem_of_getElem? (i := 340) rfl) rfl), (xtt (List.mem_of_getElem? (i := 341) rfl) rfl)⟩
set_option maxRecDepth 100000 in
theorem xl_X5_84 : xCV RX5 84 yX3_noteAt := ⟨(xtt (List.mem_of_getElem? (i := 343) rfl) rfl), (xtt (List.mem_of_getElem? (i := 344) rfl) rfl), (xtt (List.mem_of_getElem? (i := 345) rfl) rfl)⟩
set_option maxRecDepth 100000 in
theorem xl_L_36 : xCV RL 36 yX5_key := ⟨(xtt (List.mem_of_getElem? (i := 347) rfl) rfl), (xtt (List.mem_of_getElem? (i := 348) rfl) rfl), (xtt (List.mem_of_getElem? (i := 349) rfl) rfl)⟩
set_option maxRecDepth 100000 in
theorem xl_X5_94 : xCS RX5 94 yJ9_floorDiv_7cf53 := ⟨(xtt (List.mem_of_getElem? (i := 351) rfl) rfl), (xtt (List.mem_of_getElem? (i := 352) rfl) rfl)⟩
set_option maxRecDepth 100000 in
theorem xl_L_40 : xCV RL 40 yX5_compare := ⟨(xtt (List.mem_of_getElem? (i := 354) rfl) rfl), (xtt (List.mem_of_getElem? (i := 355) rfl) rfl), (xtt (List.mem_of_getElem? (i := 356) rfl) rfl)⟩
set_option maxRecDepth 100000 in
theorem xl_X5_104 : xCV RX5 104 yX1_isBelow := ⟨(xtt (List.mem_of_getElem? (i := 358) rfl) rfl), (xtt (List.mem_of_getElem? (i := 296) rfl) rfl), (xtt (List.mem_of_getElem? (i := 297) rfl) rfl)⟩
set_option maxRecDepth 100000 in
theorem xl_L_44 : xCV RL 44 yX5_reduce := ⟨(xtt (List.mem_of_getElem? (i := 359) rfl) rfl), (xtt (List.mem_of_getElem? (i := 360) rfl) rfl), (xtt (List.mem_of_getElem? (i := 361) rfl) rfl)⟩
set_option maxRecDepth 100000 in
theorem xl_X5_108 : xCV RX5 108 yX5_isStep := ⟨(xtt (List.mem_of_getElem? (i := 363) rfl) rfl), (xtt (List.mem_of_getElem? (i := 365) rfl) rfl), (xtt (List.mem_of_getElem? (i := 1) rfl) rfl)⟩
set_option maxRecDepth 100000 in
theorem xl_L_48 : xCV RL 48 yX5_order := ⟨(xtt (List.mem_of_getElem? (i := 367) rfl) rfl), (xtt (List.mem_of_getElem? (i := 368) rfl) rfl), (xtt (List.mem_of_getElem? (i := 369) rfl) rfl)⟩
set_option maxRecDepth 100000 in
theorem xl_L_52 : xCV RL 52 yX5_gap := ⟨(xtt (List.mem_of_getElem? (i := 371) rfl) rfl), (xtt (List.mem_of_getElem? (i := 372) rfl) rfl), (xtt (List.mem_of_getElem? (i := 373) rfl) rfl)⟩
set_option maxRecDepth 100000 in
theorem xl_X5_117 : xCV RX5 117 yX3_gapExponent := ⟨(xtt (List.mem_of_getElem? (i := 375) rfl) rfl), (xtt (List.mem_of_getElem? (i := 376) rfl) rfl), (xtt (List.mem_of_getElem? (i := 377) rfl) rfl)⟩
set_option maxRecDepth 100000 in
theorem xl_L_56 : xCV RL 56 yX5_gaps := ⟨(xtt (List.mem_of_getElem? (i := 379) rfl) rfl), (xtt (List.mem_of_getElem? (i := 380) rfl) rfl), (xtt (List.mem_of_getElem? (i := 381) rfl) rfl)⟩
set_option maxRecDepth 100000 in
theorem xl_X5_120 : xCV RX5 120 yX3_differentGaps := ⟨(xtt (List.mem_of_getElem? (i := 383) rfl) rfl), (xtt (List.mem_of_getElem? (i := 384) rfl) rfl), (xtt (List.mem_of_getElem? (i := 385) rfl) rfl)⟩
set_option maxRecDepth 100000 in
theorem xl_X3_88 : xCV RX3 88 yX3_isGapBefore := ⟨(xtt (List.mem_of_getElem? (i := 387) rfl) rfl), (xtt (List.mem_of_getElem? (i := 388) rfl) rfl), (xtt (List.mem_of_getElem? (i := 389) rfl) rfl)⟩
set_option maxRecDepth 100000 in
theorem xl_X3_92 : xCV RX3 92 yX3_areSameGaps := ⟨(xtt (List.mem_of_getElem? (i := 391) rfl) rfl), (xtt (List.mem_of_getElem? (i := 392) rfl) rfl), (xtt (List.mem_of_getElem? (i := 393) rfl) rfl)⟩
set_option maxRecDepth 100000 in
theorem xl_X3_96 : xCV RX3 96 yX3_gapExponent := ⟨(xtt (List.mem_of_getElem? (i := 395) rfl) rfl), (xtt (List.mem_of_getElem? (i := 376) rfl) rfl), (xtt (List.mem_of_getElem? (i := 377) rfl) rfl)⟩
set_option maxRecDepth 100000 in
theorem xl_L_60 : xCV RL 60 yX5_chain := ⟨(xtt (List.mem_of_getElem? (i := 396) rfl) rfl), (xtt (List.mem_of_getElem? (i := 397) rfl) rfl), (xtt (List.mem_of_getElem? (i := 398) rfl) rfl)⟩
set_option maxRecDepth 100000 in
theorem xl_X5_124 : xCS RX5 124 yX5_mayLink := ⟨(xtt (List.mem_of_getElem? (i := 400) rfl) rfl), (xtt (List.mem_of_getElem? (i := 401) rfl) rfl)⟩
set_option maxRecDepth 100000 in
theorem xl_X5_130 : xCV RX5 130 yX1_clear := ⟨(xtt (List.mem_of_getElem? (i := 403) rfl) rfl), (xtt (List.mem_of_getElem? (i := 283) rfl) rfl), (xtt (List.mem_of_getElem? (i := 284) rfl) rfl)⟩
set_option maxRecDepth 100000 in
theorem xl_X5_133 : xCV RX5 133 yX1_addPrime := ⟨(xtt (List.mem_of_getElem? (i := 404) rfl) rfl), (xtt (List.mem_of_getElem? (i := 112) rfl) rfl), (xtt (List.mem_of_getElem? (i := 113) rfl) rfl)⟩
set_option maxRecDepth 100000 in
theorem xl_X5_137 : xCV RX5 137 yX3_becomeChain := ⟨(xtt (List.mem_of_getElem? (i := 405) rfl) rfl), (xtt (List.mem_of_getElem? (i := 406) rfl) rfl), (xtt (List.mem_of_getElem? (i := 407) rfl) rfl)⟩
set_option maxRecDepth 100000 in
theorem xl_X3_74 : xCV RX3 74 yX3_sinkStep := ⟨(xtt (List.mem_of_getElem? (i := 409) rfl) rfl), (xtt (List.mem_of_getElem? (i := 410) rfl) rfl), (xtt (List.mem_of_getElem? (i := 411) rfl) rfl)⟩
set_option maxRecDepth 100000 in
theorem xl_L_65 : xCV RL 65 yX5_degree := ⟨(xtt (List.mem_of_getElem? (i := 413) rfl) rfl), (xtt (List.mem_of_getElem? (i := 414) rfl) rfl), (xtt (List.mem_of_getElem? (i := 415) rfl) rfl)⟩
set_option maxRecDepth 100000 in
theorem xl_X5_141 : xCS RX5 141 yX5_isPartCount := ⟨(xtt (List.mem_of_getElem? (i := 417) rfl) rfl), (xtt (List.mem_of_getElem? (i := 418) rfl) rfl)⟩
set_option maxRecDepth 100000 in
theorem xl_X5_144 : xCV RX5 144 yX2_nearest := ⟨(xtt (List.mem_of_getElem? (i := 420) rfl) rfl), (xtt (List.mem_of_getElem? (i := 421) rfl) rfl), (xtt (List.mem_of_getElem? (i := 422) rfl) rfl)⟩
set_option maxRecDepth 100000 in
theorem xl_X2_38 : xCV RX2 38 yX1_copyFrom := ⟨(xtt (List.mem_of_getElem? (i := 424) rfl) rfl), (xtt (List.mem_of_getElem? (i := 304) rfl) rfl), (xtt (List.mem_of_getElem? (i := 305) rfl) rfl)⟩
set_option maxRecDepth 100000 in
theorem xl_X2_42 : xCV RX2 42 yX1_addTimes := ⟨(xtt (List.mem_of_getElem? (i := 425) rfl) rfl), (xtt (List.mem_of_getElem? (i := 311) rfl) rfl), (xtt (List.mem_of_getElem? (i := 312) rfl) rfl)⟩
set_option maxRecDepth 100000 in
theorem xl_X2_46 : xCV RX2 46 yX1_timesOf := ⟨(xtt (List.mem_of_getElem? (i := 426) rfl) rfl), (xtt (List.mem_of_getElem? (i := 292) rfl) rfl), (xtt (List.mem_of_getElem? (i := 293) rfl) rfl)⟩
set_option maxRecDepth 100000 in
theorem xl_L_69 : xCV RL 69 yX5_prime := ⟨(xtt (List.mem_of_getElem? (i := 427) rfl) rfl), (xtt (List.mem_of_getElem? (i := 428) rfl) rfl), (xtt (List.mem_of_getElem? (i := 429) rfl) rfl)⟩
set_option maxRecDepth 100000 in
theorem xl_X5_148 : xCV RX5 148 yX2_nearestToPrime := ⟨(xtt (List.mem_of_getElem? (i := 431) rfl) rfl), (xtt (List.mem_of_getElem? (i := 432) rfl) rfl), (xtt (List.mem_of_getElem? (i := 433) rfl) rfl)⟩
set_option maxRecDepth 100000 in
theorem xl_X2_50 : xCV RX2 50 yX1_clear := ⟨(xtt (List.mem_of_getElem? (i := 435) rfl) rfl), (xtt (List.mem_of_getElem? (i := 283) rfl) rfl), (xtt (List.mem_of_getElem? (i := 284) rfl) rfl)⟩
set_option maxRecDepth 100000 in
theorem xl_X2_53 : xCV RX2 53 yX1_addPrime := ⟨(xtt (List.mem_of_getElem? (i := 436) rfl) rfl), (xtt (List.mem_of_getElem? (i := 112) rfl) rfl), (xtt (List.mem_of_getElem? (i := 113) rfl) rfl)⟩
set_option maxRecDepth 100000 in
theorem xl_X2_57 : xCV RX2 57 yX2_nearest := ⟨(xtt (List.mem_of_getElem? (i := 437) rfl) rfl), (xtt (List.mem_of_getElem? (i := 421) rfl) rfl), (xtt (List.mem_of_getElem? (i := 422) rfl) rfl)⟩
set_option maxRecDepth 100000 in
theorem xl_L_73 : xCV RL 73 yX5_makes := ⟨(xtt (List.mem_of_getElem? (i := 438) rfl) rfl), (xtt (List.mem_of_getElem? (i := 439) rfl) rfl), (xtt (List.mem_of_getElem? (i := 440) rfl) rfl)⟩
set_option maxRecDepth 100000 in
theorem xl_X5_151 : xCV RX5 151 yX2_sum := ⟨(xtt (List.mem_of_getElem? (i := 442) rfl) rfl), (xtt (List.mem_of_getElem? (i := 443) rfl) rfl), (xtt (List.mem_of_getElem? (i := 444) rfl) rfl)⟩
set_option maxRecDepth 100000 in
theorem xl_X2_64 : xCV RX2 64 yX2_nearestToPrime := ⟨(xtt (List.mem_of_getElem? (i := 446) rfl) rfl), (xtt (List.mem_of_getElem? (i := 432) rfl) rfl), (xtt (List.mem_of_getElem? (i := 433) rfl) rfl)⟩
set_option maxRecDepth 100000 in
theorem xl_L_77 : xCV RL 77 yX5_tempers := ⟨(xtt (List.mem_of_getElem? (i := 447) rfl) rfl), (xtt (List.mem_of_getElem? (i := 448) rfl) rfl), (xtt (List.mem_of_getElem? (i := 449) rfl) rfl)⟩
set_option maxRecDepth 100000 in
theorem xl_X5_154 : xCV RX5 154 yX2_leastThatMakesNothing := ⟨(xtt (List.mem_of_getElem? (i := 451) rfl) rfl), (xtt (List.mem_of_getElem? (i := 452) rfl) rfl), (xtt (List.mem_of_getElem? (i := 453) rfl) rfl)⟩
set_option maxRecDepth 100000 in
theorem xl_X2_68 : xCV RX2 68 yX2_sum := ⟨(xtt (List.mem_of_getElem? (i := 455) rfl) rfl), (xtt (List.mem_of_getElem? (i := 443) rfl) rfl), (xtt (List.mem_of_getElem? (i := 444) rfl) rfl)⟩
set_option maxRecDepth 100000 in
theorem xl_L_81 : xCV RL 81 yX5_term := ⟨(xtt (List.mem_of_getElem? (i := 456) rfl) rfl), (xtt (List.mem_of_getElem? (i := 457) rfl) rfl), (xtt (List.mem_of_getElem? (i := 458) rfl) rfl)⟩
set_option maxRecDepth 100000 in
theorem xl_X5_158 : xCV RX5 158 yX1_isAboveUnison := ⟨(xtt (List.mem_of_getElem? (i := 460) rfl) rfl), (xtt (List.mem_of_getElem? (i := 461) rfl) rfl), (xtt (List.mem_of_getElem? (i := 462) rfl) rfl)⟩
set_option maxRecDepth 100000 in
theorem xl_X1_46 : xCV RX1 46 yX1_isUnison := ⟨(xtt (List.mem_of_getElem? (i := 464) rfl) rfl), (xtt (List.mem_of_getElem? (i := 465) rfl) rfl), (xtt (List.mem_of_getElem? (i := 466) rfl) rfl)⟩
set_option maxRecDepth 100000 in
theorem xl_X5_161 : xCV RX5 161 yX0_termAt := ⟨(xtt (List.mem_of_getElem? (i := 468) rfl) rfl), (xtt (List.mem_of_getElem? (i := 469) rfl) rfl), (xtt (List.mem_of_getElem? (i := 470) rfl) rfl)⟩
set_option maxRecDepth 100000 in
theorem xl_X0_21 : xCV RX0 21 yX1_copyFrom := ⟨(xtt (List.mem_of_getElem? (i := 472) rfl) rfl), (xtt (List.mem_of_getElem? (i := 304) rfl) rfl), (xtt (List.mem_of_getElem? (i := 305) rfl) rfl)⟩
set_option maxRecDepth 100000 in
theorem xl_X0_25 : xCS RX0 25 yX0_takeTerm := ⟨(xtt (List.mem_of_getElem? (i := 473) rfl) rfl), (xtt (List.mem_of_getElem? (i := 474) rfl) rfl)⟩
set_option maxRecDepth 100000 in
theorem xl_X0_35 : xCV RX0 35 yX1_isWide := ⟨(xtt (List.mem_of_getElem? (i := 476) rfl) rfl), (xtt (List.mem_of_getElem? (i := 477) rfl) rfl), (xtt (List.mem_of_getElem? (i := 478) rfl) rfl)⟩
set_option maxRecDepth 100000 in
theorem xl_X0_38 : xCV RX0 38 yX1_timesOf := ⟨(xtt (List.mem_of_getElem? (i := 481) rfl) rfl), (xtt (List.mem_of_getElem? (i := 292) rfl) rfl), (xtt (List.mem_of_getElem? (i := 293) rfl) rfl)⟩
set_option maxRecDepth 100000 in
theorem xl_X0_42 : xCV RX0 42 yX1_addTimes := ⟨(xtt (List.mem_of_getElem? (i := 482) rfl) rfl), (xtt (List.mem_of_getElem? (i := 311) rfl) rfl), (xtt (List.mem_of_getElem? (i := 312) rfl) rfl)⟩
set_option maxRecDepth 100000 in
theorem xl_X0_30 : xCV RX0 30 yX1_isUnison := ⟨(xtt (List.mem_of_getElem? (i := 483) rfl) rfl), (xtt (List.mem_of_getElem? (i := 465) rfl) rfl), (xtt (List.mem_of_getElem? (i := 466) rfl) rfl)⟩
set_option maxRecDepth 100000 in
theorem xl_L_12 : Cond.methodLink RL 12 yX6_init ∈ xTT ∧ Cond.instanceMethod yX6_init ∈ xTT := ⟨(xtt (List.mem_of_getElem? (i := 488) rfl) rfl), (xtt (List.mem_of_getElem? (i := 489) rfl) rfl)⟩
set_option maxRecDepth 100000 in
theorem xl_L_17 : xCV RL 17 yX6_sign_ := ⟨(xtt (List.mem_of_getElem? (i := 588) rfl) rfl), (xtt (List.mem_of_getElem? (i := 589) rfl) rfl), (xtt (List.mem_of_getElem? (i := 590) rfl) rfl)⟩
set_option maxRecDepth 100000 in
theorem xl_X6_108 : xCS RX6 108 yX6_within := ⟨(xtt (List.mem_of_getElem? (i := 592) rfl) rfl), (xtt (List.mem_of_getElem? (i := 593) rfl) rfl)⟩
set_option maxRecDepth 100000 in
theorem xl_L_22 : xCV RL 22 yX6_read := ⟨(xtt (List.mem_of_getElem? (i := 597) rfl) rfl), (xtt (List.mem_of_getElem? (i := 598) rfl) rfl), (xtt (List.mem_of_getElem? (i := 599) rfl) rfl)⟩
set_option maxRecDepth 100000 in
theorem xl_X6_149 : xCV RX6 149 yX6_next := ⟨(xtt (List.mem_of_getElem? (i := 601) rfl) rfl), (xtt (List.mem_of_getElem? (i := 603) rfl) rfl), (xtt (List.mem_of_getElem? (i := 2) rfl) rfl)⟩
set_option maxRecDepth 100000 in
theorem xl_X6_135 : xCV RX6 135 yX6_fails := ⟨(xtt (List.mem_of_getElem? (i := 605) rfl) rfl), (xtt (List.mem_of_getElem? (i := 607) rfl) rfl), (xtt (List.mem_of_getElem? (i := 3) rfl) rfl)⟩
set_option maxRecDepth 100000 in
theorem xl_X6_152 : xCV RX6 152 yX6_readPitch := ⟨(xtt (List.mem_of_getElem? (i := 609) rfl) rfl), (xtt (List.mem_of_getElem? (i := 611) rfl) rfl), (xtt (List.mem_of_getElem? (i := 4) rfl) rfl)⟩
set_option maxRecDepth 100000 in
theorem xl_X6_145 : xCV RX6 145 yX6_factor := ⟨(xtt (List.mem_of_getElem? (i := 613) rfl) rfl), (xtt (List.mem_of_getElem? (i := 615) rfl) rfl), (xtt (List.mem_of_getElem? (i := 5) rfl) rfl)⟩
set_option maxRecDepth 100000 in
theorem xl_X6_155 : xCV RX6 155 yX6_whole := ⟨(xtt (List.mem_of_getElem? (i := 617) rfl) rfl), (xtt (List.mem_of_getElem? (i := 619) rfl) rfl), (xtt (List.mem_of_getElem? (i := 6) rfl) rfl)⟩
set_option maxRecDepth 100000 in
theorem xl_L_26 : xCV RL 26 yX6_place := ⟨(xtt (List.mem_of_getElem? (i := 621) rfl) rfl), (xtt (List.mem_of_getElem? (i := 622) rfl) rfl), (xtt (List.mem_of_getElem? (i := 623) rfl) rfl)⟩
set_option maxRecDepth 100000 in
theorem xl_L_30 : xCV RL 30 yX6_steps := ⟨(xtt (List.mem_of_getElem? (i := 625) rfl) rfl), (xtt (List.mem_of_getElem? (i := 626) rfl) rfl), (xtt (List.mem_of_getElem? (i := 627) rfl) rfl)⟩
set_option maxRecDepth 100000 in
theorem xl_L_35 : xCV RL 35 yX6_exponent := ⟨(xtt (List.mem_of_getElem? (i := 629) rfl) rfl), (xtt (List.mem_of_getElem? (i := 630) rfl) rfl), (xtt (List.mem_of_getElem? (i := 631) rfl) rfl)⟩
set_option maxRecDepth 100000 in
theorem xl_X6_101 : xCV RX6 101 yX6_take := ⟨(xtt (List.mem_of_getElem? (i := 634) rfl) rfl), (xtt (List.mem_of_getElem? (i := 636) rfl) rfl), (xtt (List.mem_of_getElem? (i := 7) rfl) rfl)⟩
set_option maxRecDepth 100000 in
theorem xl_L_39 : xCV RL 39 yX6_key := ⟨(xtt (List.mem_of_getElem? (i := 638) rfl) rfl), (xtt (List.mem_of_getElem? (i := 639) rfl) rfl), (xtt (List.mem_of_getElem? (i := 640) rfl) rfl)⟩
set_option maxRecDepth 100000 in
theorem xl_L_43 : xCV RL 43 yX6_compare := ⟨(xtt (List.mem_of_getElem? (i := 642) rfl) rfl), (xtt (List.mem_of_getElem? (i := 643) rfl) rfl), (xtt (List.mem_of_getElem? (i := 644) rfl) rfl)⟩
set_option maxRecDepth 100000 in
theorem xl_X6_97 : xCV RX6 97 yX6_signOf := ⟨(xtt (List.mem_of_getElem? (i := 646) rfl) rfl), (xtt (List.mem_of_getElem? (i := 648) rfl) rfl), (xtt (List.mem_of_getElem? (i := 8) rfl) rfl)⟩
set_option maxRecDepth 100000 in
theorem xl_X6_93 : xCV RX6 93 yX6_sign := ⟨(xtt (List.mem_of_getElem? (i := 650) rfl) rfl), (xtt (List.mem_of_getElem? (i := 652) rfl) rfl), (xtt (List.mem_of_getElem? (i := 9) rfl) rfl)⟩
set_option maxRecDepth 100000 in
theorem xl_X6_81 : xCV RX6 81 yX6_logOf := ⟨(xtt (List.mem_of_getElem? (i := 654) rfl) rfl), (xtt (List.mem_of_getElem? (i := 656) rfl) rfl), (xtt (List.mem_of_getElem? (i := 10) rfl) rfl)⟩
set_option maxRecDepth 100000 in
theorem xl_X6_89 : xCV RX6 89 yX6_lay := ⟨(xtt (List.mem_of_getElem? (i := 660) rfl) rfl), (xtt (List.mem_of_getElem? (i := 662) rfl) rfl), (xtt (List.mem_of_getElem? (i := 11) rfl) rfl)⟩
set_option maxRecDepth 100000 in
theorem xl_X6_75 : xCS RX6 75 yX6_multiply := ⟨(xtt (List.mem_of_getElem? (i := 665) rfl) rfl), (xtt (List.mem_of_getElem? (i := 666) rfl) rfl)⟩
set_option maxRecDepth 100000 in
theorem xl_L_47 : xCV RL 47 yX6_reduce := ⟨(xtt (List.mem_of_getElem? (i := 669) rfl) rfl), (xtt (List.mem_of_getElem? (i := 670) rfl) rfl), (xtt (List.mem_of_getElem? (i := 671) rfl) rfl)⟩
set_option maxRecDepth 100000 in
theorem xl_X6_160 : xCV RX6 160 yX6_isStep := ⟨(xtt (List.mem_of_getElem? (i := 673) rfl) rfl), (xtt (List.mem_of_getElem? (i := 675) rfl) rfl), (xtt (List.mem_of_getElem? (i := 12) rfl) rfl)⟩
set_option maxRecDepth 100000 in
theorem xl_X6_105 : xCV RX6 105 yX6_periodsIn := ⟨(xtt (List.mem_of_getElem? (i := 677) rfl) rfl), (xtt (List.mem_of_getElem? (i := 679) rfl) rfl), (xtt (List.mem_of_getElem? (i := 13) rfl) rfl)⟩
set_option maxRecDepth 100000 in
theorem xl_L_51 : xCV RL 51 yX6_order := ⟨(xtt (List.mem_of_getElem? (i := 681) rfl) rfl), (xtt (List.mem_of_getElem? (i := 682) rfl) rfl), (xtt (List.mem_of_getElem? (i := 683) rfl) rfl)⟩
set_option maxRecDepth 100000 in
theorem xl_X6_171 : xCV RX6 171 yX6_orderAll := ⟨(xtt (List.mem_of_getElem? (i := 685) rfl) rfl), (xtt (List.mem_of_getElem? (i := 687) rfl) rfl), (xtt (List.mem_of_getElem? (i := 14) rfl) rfl)⟩
set_option maxRecDepth 100000 in
theorem xl_X6_164 : xCV RX6 164 yX6_reduced := ⟨(xtt (List.mem_of_getElem? (i := 689) rfl) rfl), (xtt (List.mem_of_getElem? (i := 691) rfl) rfl), (xtt (List.mem_of_getElem? (i := 15) rfl) rfl)⟩
set_option maxRecDepth 100000 in
theorem xl_X6_167 : xCV RX6 167 yX6_compareReduced := ⟨(xtt (List.mem_of_getElem? (i := 693) rfl) rfl), (xtt (List.mem_of_getElem? (i := 695) rfl) rfl), (xtt (List.mem_of_getElem? (i := 16) rfl) rfl)⟩
set_option maxRecDepth 100000 in
theorem xl_L_55 : xCV RL 55 yX6_gap := ⟨(xtt (List.mem_of_getElem? (i := 697) rfl) rfl), (xtt (List.mem_of_getElem? (i := 698) rfl) rfl), (xtt (List.mem_of_getElem? (i := 699) rfl) rfl)⟩
set_option maxRecDepth 100000 in
theorem xl_X6_174 : xCV RX6 174 yX6_gapAt := ⟨(xtt (List.mem_of_getElem? (i := 701) rfl) rfl), (xtt (List.mem_of_getElem? (i := 703) rfl) rfl), (xtt (List.mem_of_getElem? (i := 17) rfl) rfl)⟩
set_option maxRecDepth 100000 in
theorem xl_L_59 : xCV RL 59 yX6_gaps := ⟨(xtt (List.mem_of_getElem? (i := 705) rfl) rfl), (xtt (List.mem_of_getElem? (i := 706) rfl) rfl), (xtt (List.mem_of_getElem? (i := 707) rfl) rfl)⟩
set_option maxRecDepth 100000 in
theorem xl_L_64 : xCV RL 64 yX6_chain := ⟨(xtt (List.mem_of_getElem? (i := 709) rfl) rfl), (xtt (List.mem_of_getElem? (i := 710) rfl) rfl), (xtt (List.mem_of_getElem? (i := 711) rfl) rfl)⟩
set_option maxRecDepth 100000 in
theorem xl_L_68 : xCV RL 68 yX6_degree := ⟨(xtt (List.mem_of_getElem? (i := 713) rfl) rfl), (xtt (List.mem_of_getElem? (i := 714) rfl) rfl), (xtt (List.mem_of_getElem? (i := 715) rfl) rfl)⟩
set_option maxRecDepth 100000 in
theorem xl_X6_177 : xCV RX6 177 yX6_degreeOf := ⟨(xtt (List.mem_of_getElem? (i := 717) rfl) rfl), (xtt (List.mem_of_getElem? (i := 719) rfl) rfl), (xtt (List.mem_of_getElem? (i := 18) rfl) rfl)⟩
set_option maxRecDepth 100000 in
theorem xl_L_72 : xCV RL 72 yX6_prime := ⟨(xtt (List.mem_of_getElem? (i := 721) rfl) rfl), (xtt (List.mem_of_getElem? (i := 722) rfl) rfl), (xtt (List.mem_of_getElem? (i := 723) rfl) rfl)⟩
set_option maxRecDepth 100000 in
theorem xl_X6_181 : xCV RX6 181 yX6_primeDegree := ⟨(xtt (List.mem_of_getElem? (i := 725) rfl) rfl), (xtt (List.mem_of_getElem? (i := 727) rfl) rfl), (xtt (List.mem_of_getElem? (i := 19) rfl) rfl)⟩
set_option maxRecDepth 100000 in
theorem xl_L_76 : xCV RL 76 yX6_makes := ⟨(xtt (List.mem_of_getElem? (i := 729) rfl) rfl), (xtt (List.mem_of_getElem? (i := 730) rfl) rfl), (xtt (List.mem_of_getElem? (i := 731) rfl) rfl)⟩
set_option maxRecDepth 100000 in
theorem xl_X6_184 : xCV RX6 184 yX6_made := ⟨(xtt (List.mem_of_getElem? (i := 733) rfl) rfl), (xtt (List.mem_of_getElem? (i := 735) rfl) rfl), (xtt (List.mem_of_getElem? (i := 20) rfl) rfl)⟩
set_option maxRecDepth 100000 in
theorem xl_L_80 : xCV RL 80 yX6_tempers := ⟨(xtt (List.mem_of_getElem? (i := 737) rfl) rfl), (xtt (List.mem_of_getElem? (i := 738) rfl) rfl), (xtt (List.mem_of_getElem? (i := 739) rfl) rfl)⟩
set_option maxRecDepth 100000 in
theorem xl_L_84 : xCV RL 84 yX6_term := ⟨(xtt (List.mem_of_getElem? (i := 741) rfl) rfl), (xtt (List.mem_of_getElem? (i := 742) rfl) rfl), (xtt (List.mem_of_getElem? (i := 743) rfl) rfl)⟩
set_option maxRecDepth 100000 in
theorem xl_X6_193 : xCV RX6 193 yX6_takeTerm := ⟨(xtt (List.mem_of_getElem? (i := 746) rfl) rfl), (xtt (List.mem_of_getElem? (i := 748) rfl) rfl), (xtt (List.mem_of_getElem? (i := 21) rfl) rfl)⟩
set_option maxRecDepth 100000 in
theorem xl_X6_187 : xCS RX6 187 yX6_isWide := ⟨(xtt (List.mem_of_getElem? (i := 750) rfl) rfl), (xtt (List.mem_of_getElem? (i := 751) rfl) rfl)⟩
set_option maxRecDepth 100000 in
theorem xw_L_7 : Cond.classLink RL 7 RX5 ∈ xTT ∧ Cond.instantiable RX5 4 ∈ xTT ∧ Cond.initialized RX5 ∈ xTT := ⟨(xtt (List.mem_of_getElem? (i := 33) rfl) rfl), (xtt (List.mem_of_getElem? (i := 34) rfl) rfl), (xtt (List.mem_of_getElem? (i := 23) rfl) rfl)⟩
set_option maxRecDepth 100000 in
theorem xw_X5_7 : Cond.classLink RX5 7 RX4 ∈ xTT ∧ Cond.instantiable RX4 9 ∈ xTT ∧ Cond.initialized RX4 ∈ xTT := ⟨(xtt (List.mem_of_getElem? (i := 41) rfl) rfl), (xtt (List.mem_of_getElem? (i := 42) rfl) rfl), (xtt (List.mem_of_getElem? (i := 24) rfl) rfl)⟩
set_option maxRecDepth 100000 in
theorem xw_X5_16 : Cond.classLink RX5 16 RX3 ∈ xTT ∧ Cond.instantiable RX3 8 ∈ xTT ∧ Cond.initialized RX3 ∈ xTT := ⟨(xtt (List.mem_of_getElem? (i := 82) rfl) rfl), (xtt (List.mem_of_getElem? (i := 83) rfl) rfl), (xtt (List.mem_of_getElem? (i := 25) rfl) rfl)⟩
set_option maxRecDepth 100000 in
theorem xw_X3_9 : Cond.classLink RX3 9 RX1 ∈ xTT ∧ Cond.instantiable RX1 4 ∈ xTT ∧ Cond.initialized RX1 ∈ xTT := ⟨(xtt (List.mem_of_getElem? (i := 88) rfl) rfl), (xtt (List.mem_of_getElem? (i := 90) rfl) rfl), (xtt (List.mem_of_getElem? (i := 26) rfl) rfl)⟩
set_option maxRecDepth 100000 in
theorem xw_X5_23 : Cond.classLink RX5 23 RX2 ∈ xTT ∧ Cond.instantiable RX2 5 ∈ xTT ∧ Cond.initialized RX2 ∈ xTT := ⟨(xtt (List.mem_of_getElem? (i := 153) rfl) rfl), (xtt (List.mem_of_getElem? (i := 154) rfl) rfl), (xtt (List.mem_of_getElem? (i := 27) rfl) rfl)⟩
set_option maxRecDepth 100000 in
theorem xw_X2_9 : Cond.classLink RX2 9 RX1 ∈ xTT ∧ Cond.instantiable RX1 4 ∈ xTT ∧ Cond.initialized RX1 ∈ xTT := ⟨(xtt (List.mem_of_getElem? (i := 159) rfl) rfl), (xtt (List.mem_of_getElem? (i := 90) rfl) rfl), (xtt (List.mem_of_getElem? (i := 26) rfl) rfl)⟩
set_option maxRecDepth 100000 in
theorem xw_X5_36 : Cond.classLink RX5 36 RX0 ∈ xTT ∧ Cond.instantiable RX0 2 ∈ xTT ∧ Cond.initialized RX0 ∈ xTT := ⟨(xtt (List.mem_of_getElem? (i := 181) rfl) rfl), (xtt (List.mem_of_getElem? (i := 182) rfl) rfl), (xtt (List.mem_of_getElem? (i := 29) rfl) rfl)⟩
set_option maxRecDepth 100000 in
theorem xw_X0_9 : Cond.classLink RX0 9 RX1 ∈ xTT ∧ Cond.instantiable RX1 4 ∈ xTT ∧ Cond.initialized RX1 ∈ xTT := ⟨(xtt (List.mem_of_getElem? (i := 187) rfl) rfl), (xtt (List.mem_of_getElem? (i := 90) rfl) rfl), (xtt (List.mem_of_getElem? (i := 26) rfl) rfl)⟩
set_option maxRecDepth 100000 in
theorem xw_L_10 : Cond.classLink RL 10 RX6 ∈ xTT ∧ Cond.instantiable RX6 30 ∈ xTT ∧ Cond.initialized RX6 ∈ xTT := ⟨(xtt (List.mem_of_getElem? (i := 486) rfl) rfl), (xtt (List.mem_of_getElem? (i := 487) rfl) rfl), (xtt (List.mem_of_getElem? (i := 30) rfl) rfl)⟩
set_option maxRecDepth 100000 in
theorem xa_byte : Cond.arrayClass .byte ∈ xTT := (xtt (List.mem_of_getElem? (i := 80) rfl) rfl)
set_option maxRecDepth 100000 in
theorem xa_int : Cond.arrayClass .int ∈ xTT := (xtt (List.mem_of_getElem? (i := 81) rfl) rfl)
set_option maxRecDepth 100000 in
theorem xa_long : Cond.arrayClass .long ∈ xTT := (xtt (List.mem_of_getElem? (i := 587) rfl) rfl)
set_option maxRecDepth 100000 in
theorem xo_init : Cond.instanceMethod objectInit ∈ xTT ∧ Cond.code objectInit ⟨#[0xb1]⟩ 1 none ∈ xTT := ⟨(xtt (List.mem_of_getElem? (i := 39) rfl) rfl), (xtt (List.mem_of_getElem? (i := 40) rfl) rfl)⟩
set_option maxRecDepth 100000 in
theorem xo_copy : Cond.native arraycopyName ∈ xTT ∧ Cond.static arraycopyName ∈ xTT ∧ Cond.initialized "java/lang/System" ∈ xTT := ⟨(xtt (List.mem_of_getElem? (i := 309) rfl) rfl), (xtt (List.mem_of_getElem? (i := 308) rfl) rfl), (xtt (List.mem_of_getElem? (i := 31) rfl) rfl)⟩
set_option maxRecDepth 100000 in
theorem xo_logs : Cond.fieldLink RX1 37 RX1 "LOGS" "[J" ∈ xTT := (xtt (List.mem_of_getElem? (i := 115) rfl) rfl)
set_option maxRecDepth 100000 in
theorem xo_copylink : Cond.methodLink RX1 31 arraycopyName ∈ xTT := (xtt (List.mem_of_getElem? (i := 307) rfl) rfl)
set_option maxRecDepth 100000 in
theorem xoi_X5 : Cond.methodLink RX5 1 objectInit ∈ xTT := (xtt (List.mem_of_getElem? (i := 38) rfl) rfl)
set_option maxRecDepth 100000 in
theorem xoi_X4 : Cond.methodLink RX4 3 objectInit ∈ xTT := (xtt (List.mem_of_getElem? (i := 46) rfl) rfl)
set_option maxRecDepth 100000 in
theorem xoi_X3 : Cond.methodLink RX3 3 objectInit ∈ xTT := (xtt (List.mem_of_getElem? (i := 87) rfl) rfl)
set_option maxRecDepth 100000 in
theorem xoi_X1 : Cond.methodLink RX1 3 objectInit ∈ xTT := (xtt (List.mem_of_getElem? (i := 94) rfl) rfl)
set_option maxRecDepth 100000 in
theorem xoi_X2 : Cond.methodLink RX2 3 objectInit ∈ xTT := (xtt (List.mem_of_getElem? (i := 158) rfl) rfl)
set_option maxRecDepth 100000 in
theorem xoi_X0 : Cond.methodLink RX0 3 objectInit ∈ xTT := (xtt (List.mem_of_getElem? (i := 186) rfl) rfl)
set_option maxRecDepth 100000 in
theorem xoi_X6 : Cond.methodLink RX6 1 objectInit ∈ xTT := (xtt (List.mem_of_getElem? (i := 491) rfl) rfl)
