/-! names, fields, decode rows: as printed of the program, those that are walked here -/
def RX0 : String := "StatementCycle$Account"
def TX0 : u_T := fun k => match k with
  | 0 => ("StatementCycle$Account", "events", "Ljava/util/ArrayList;", true)
  | 1 => ("StatementCycle$Account", "byDay", "Ljava/util/ArrayList;", true)
  | 2 => ("StatementCycle$Account", "disputed", "Ljava/util/ArrayList;", true)
  | 3 => ("StatementCycle$Account", "firstCycle", "I", true)
  | 4 => ("StatementCycle$Account", "balancesTold", "[J", true)
  | 5 => ("StatementCycle$Account", "books", "LStatementCycle$Books;", true)
  | 6 => ("StatementCycle$Account", "limit", "I", false)
  | 7 => ("StatementCycle$Account", "isBlocked", "Z", false)
  | _ => ("StatementCycle$Account", "isStale", "Z", false)
def tyX0 : Nat → FieldType := fun k => match k with
  | 0 => .object "java/util/ArrayList"
  | 1 => .object "java/util/ArrayList"
  | 2 => .object "java/util/ArrayList"
  | 3 => .int
  | 4 => .array .long
  | 5 => .object "StatementCycle$Books"
  | 6 => .int
  | 7 => .boolean
  | _ => .boolean
theorem nmX0 : ∀ a, a < 9 → ∀ b, b < 9 → a ≠ b → (TX0 a).2.1 ≠ (TX0 b).2.1 := by decide +kernel
theorem tyX0_ok : ∀ k, k < 9 → parseFieldDescriptor (TX0 k).2.2.1 = some (tyX0 k) := by decide +kernel
abbrev cX0_init : ByteArray := prog_2_method_1_code
def yX0_init : MethodName := ⟨RX0, "<init>", "(II)V"⟩
def RX1 : String := "StatementCycle$Books"
def TX1 : u_T := fun k => match k with
  | 0 => ("StatementCycle$Books", "owed", "[J", true)
  | 1 => ("StatementCycle$Books", "accrued", "[J", true)
  | 2 => ("StatementCycle$Books", "rates", "[I", true)
  | 3 => ("StatementCycle$Books", "ratesOfDay", "[I", true)
  | 4 => ("StatementCycle$Books", "statements", "[LStatementCycle$Statement;", true)
  | 5 => ("StatementCycle$Books", "credit", "J", false)
  | 6 => ("StatementCycle$Books", "promotedRate", "I", false)
  | 7 => ("StatementCycle$Books", "promotedUntil", "I", false)
  | 8 => ("StatementCycle$Books", "planUntil", "I", false)
  | 9 => ("StatementCycle$Books", "isOff", "Z", false)
  | 10 => ("StatementCycle$Books", "paidSinceClosing", "J", false)
  | 11 => ("StatementCycle$Books", "feesOfCycle", "J", false)
  | 12 => ("StatementCycle$Books", "lateFees", "J", false)
  | 13 => ("StatementCycle$Books", "closed", "I", false)
  | 14 => ("StatementCycle$Books", "dueStatements", "I", false)
  | 15 => ("StatementCycle$Books", "missedStatements", "I", false)
  | _ => ("StatementCycle$Books", "missedInARow", "I", false)
def tyX1 : Nat → FieldType := fun k => match k with
  | 0 => .array .long
  | 1 => .array .long
  | 2 => .array .int
  | 3 => .array .int
  | 4 => .array (.object "StatementCycle$Statement")
  | 5 => .long
  | 6 => .int
  | 7 => .int
  | 8 => .int
  | 9 => .boolean
  | 10 => .long
  | 11 => .long
  | 12 => .long
  | 13 => .int
  | 14 => .int
  | 15 => .int
  | _ => .int
theorem nmX1 : ∀ a, a < 17 → ∀ b, b < 17 → a ≠ b → (TX1 a).2.1 ≠ (TX1 b).2.1 := by decide +kernel
theorem tyX1_ok : ∀ k, k < 17 → parseFieldDescriptor (TX1 k).2.2.1 = some (tyX1 k) := by decide +kernel
abbrev cX1_init : ByteArray := prog_3_method_1_code
def yX1_init : MethodName := ⟨RX1, "<init>", "()V"⟩
def RX3 : String := "StatementCycle$Statement"
def TX3 : u_T := fun k => match k with
  | 0 => ("StatementCycle$Statement", "balance", "J", false)
  | 1 => ("StatementCycle$Statement", "least", "J", false)
  | 2 => ("StatementCycle$Statement", "interest", "J", false)
  | 3 => ("StatementCycle$Statement", "isWithGrace", "Z", false)
  | _ => ("StatementCycle$Statement", "outcome", "C", false)
def tyX3 : Nat → FieldType := fun k => match k with
  | 0 => .long
  | 1 => .long
  | 2 => .long
  | 3 => .boolean
  | _ => .char
theorem nmX3 : ∀ a, a < 5 → ∀ b, b < 5 → a ≠ b → (TX3 a).2.1 ≠ (TX3 b).2.1 := by decide +kernel
theorem tyX3_ok : ∀ k, k < 5 → parseFieldDescriptor (TX3 k).2.2.1 = some (tyX3 k) := by decide +kernel
abbrev cX3_init : ByteArray := prog_5_method_1_code
def yX3_init : MethodName := ⟨RX3, "<init>", "()V"⟩
def RX4 : String := "StatementCycle"
def TX4 : u_T := fun k => match k with
  | 0 => ("StatementCycle", "accounts", "Ljava/util/ArrayList;", true)
  | 1 => ("StatementCycle", "worths", "[I", true)
  | 2 => ("StatementCycle", "recomputed", "LStatementCycle$Books;", true)
  | _ => ("StatementCycle", "day", "I", false)
def tyX4 : Nat → FieldType := fun k => match k with
  | 0 => .object "java/util/ArrayList"
  | 1 => .array .int
  | 2 => .object "StatementCycle$Books"
  | _ => .int
theorem nmX4 : ∀ a, a < 4 → ∀ b, b < 4 → a ≠ b → (TX4 a).2.1 ≠ (TX4 b).2.1 := by decide +kernel
theorem tyX4_ok : ∀ k, k < 4 → parseFieldDescriptor (TX4 k).2.2.1 = some (tyX4 k) := by decide +kernel
abbrev cX4_init : ByteArray := prog_1_method_1_code
def yX4_init : MethodName := ⟨RX4, "<init>", "()V"⟩
abbrev cX4_open : ByteArray := prog_1_method_2_code
def yX4_open : MethodName := ⟨RX4, "open", "(I)I"⟩
abbrev cX4_setLimit : ByteArray := prog_1_method_3_code
def yX4_setLimit : MethodName := ⟨RX4, "setLimit", "(II)I"⟩
abbrev cX4_block : ByteArray := prog_1_method_4_code
def yX4_block : MethodName := ⟨RX4, "block", "(IZ)Z"⟩
abbrev cX4_setRate : ByteArray := prog_1_method_5_code
def yX4_setRate : MethodName := ⟨RX4, "setRate", "(ICI)I"⟩
abbrev cX4_promote : ByteArray := prog_1_method_6_code
def yX4_promote : MethodName := ⟨RX4, "promote", "(III)I"⟩
abbrev cX4_setCurrency : ByteArray := prog_1_method_7_code
def yX4_setCurrency : MethodName := ⟨RX4, "setCurrency", "(II)I"⟩
abbrev cX4_buy : ByteArray := prog_1_method_8_code
def yX4_buy : MethodName := ⟨RX4, "buy", "(ICI)I"⟩
abbrev cX4_buyOn : ByteArray := prog_1_method_9_code
def yX4_buyOn : MethodName := ⟨RX4, "buyOn", "(ICII)I"⟩
abbrev cX4_abroad : ByteArray := prog_1_method_10_code
def yX4_abroad : MethodName := ⟨RX4, "abroad", "(III)I"⟩
abbrev cX4_pay : ByteArray := prog_1_method_11_code
def yX4_pay : MethodName := ⟨RX4, "pay", "(II)I"⟩
abbrev cX4_returns : ByteArray := prog_1_method_12_code
def yX4_returns : MethodName := ⟨RX4, "returns", "(II)I"⟩
abbrev cX4_dispute : ByteArray := prog_1_method_13_code
def yX4_dispute : MethodName := ⟨RX4, "dispute", "(II)I"⟩
abbrev cX4_settle : ByteArray := prog_1_method_14_code
def yX4_settle : MethodName := ⟨RX4, "settle", "(IIZ)J"⟩
abbrev cX4_reverse : ByteArray := prog_1_method_15_code
def yX4_reverse : MethodName := ⟨RX4, "reverse", "(II)J"⟩
abbrev cX4_plan : ByteArray := prog_1_method_16_code
def yX4_plan : MethodName := ⟨RX4, "plan", "(I)I"⟩
abbrev cX4_redeem : ByteArray := prog_1_method_17_code
def yX4_redeem : MethodName := ⟨RX4, "redeem", "(II)I"⟩
abbrev cX4_pass : ByteArray := prog_1_method_18_code
def yX4_pass : MethodName := ⟨RX4, "pass", "(I)I"⟩
abbrev cX4_owed : ByteArray := prog_1_method_19_code
def yX4_owed : MethodName := ⟨RX4, "owed", "(I)J"⟩
abbrev cX4_bucket : ByteArray := prog_1_method_20_code
def yX4_bucket : MethodName := ⟨RX4, "bucket", "(IC)J"⟩
abbrev cX4_credit : ByteArray := prog_1_method_21_code
def yX4_credit : MethodName := ⟨RX4, "credit", "(I)J"⟩
abbrev cX4_statement : ByteArray := prog_1_method_22_code
def yX4_statement : MethodName := ⟨RX4, "statement", "(II)J"⟩
abbrev cX4_told : ByteArray := prog_1_method_23_code
def yX4_told : MethodName := ⟨RX4, "told", "(II)J"⟩
abbrev cX4_difference : ByteArray := prog_1_method_24_code
def yX4_difference : MethodName := ⟨RX4, "difference", "(II)J"⟩
abbrev cX4_least : ByteArray := prog_1_method_25_code
def yX4_least : MethodName := ⟨RX4, "least", "(II)J"⟩
abbrev cX4_interest : ByteArray := prog_1_method_26_code
def yX4_interest : MethodName := ⟨RX4, "interest", "(II)J"⟩
abbrev cX4_hadGrace : ByteArray := prog_1_method_27_code
def yX4_hadGrace : MethodName := ⟨RX4, "hadGrace", "(II)Z"⟩
abbrev cX4_paid : ByteArray := prog_1_method_28_code
def yX4_paid : MethodName := ⟨RX4, "paid", "(II)C"⟩
abbrev cX4_missing : ByteArray := prog_1_method_29_code
def yX4_missing : MethodName := ⟨RX4, "missing", "(I)J"⟩
abbrev cX4_missed : ByteArray := prog_1_method_30_code
def yX4_missed : MethodName := ⟨RX4, "missed", "(I)I"⟩
abbrev cX4_isOff : ByteArray := prog_1_method_31_code
def yX4_isOff : MethodName := ⟨RX4, "isOff", "(I)Z"⟩
abbrev cX4_points : ByteArray := prog_1_method_32_code
def yX4_points : MethodName := ⟨RX4, "points", "(I)J"⟩
abbrev cX4_events : ByteArray := prog_1_method_33_code
def yX4_events : MethodName := ⟨RX4, "events", "(I)I"⟩
abbrev cX4_kindOf : ByteArray := prog_1_method_34_code
def yX4_kindOf : MethodName := ⟨RX4, "kindOf", "(II)C"⟩
abbrev cX4_isBack : ByteArray := prog_1_method_35_code
def yX4_isBack : MethodName := ⟨RX4, "isBack", "(II)Z"⟩
abbrev cX4_sum : ByteArray := prog_1_method_36_code
def yX4_sum : MethodName := ⟨RX4, "sum", "(II)I"⟩
abbrev cX4_why : ByteArray := prog_1_method_37_code
def yX4_why : MethodName := ⟨RX4, "why", "(ICI)C"⟩
abbrev cX4_reasons : ByteArray := prog_1_method_38_code
def yX4_reasons : MethodName := ⟨RX4, "reasons", "(ICI)I"⟩
abbrev cX4_collected : ByteArray := prog_1_method_39_code
def yX4_collected : MethodName := ⟨RX4, "collected", "()J"⟩
abbrev cX4_today : ByteArray := prog_1_method_40_code
def yX4_today : MethodName := ⟨RX4, "today", "()I"⟩
abbrev cX4_checksum : ByteArray := prog_1_method_41_code
def yX4_checksum : MethodName := ⟨RX4, "checksum", "()J"⟩
abbrev cX4_missedShare : ByteArray := prog_1_method_42_code
def yX4_missedShare : MethodName := ⟨RX4, "missedShare", "()F"⟩
abbrev cX4_meanOwed : ByteArray := prog_1_method_43_code
def yX4_meanOwed : MethodName := ⟨RX4, "meanOwed", "()D"⟩
abbrev cX4_isSound : ByteArray := prog_1_method_44_code
def yX4_isSound : MethodName := ⟨RX4, "isSound", "()Z"⟩
abbrev cX4_accountAt : ByteArray := prog_1_method_45_code
def yX4_accountAt : MethodName := ⟨RX4, "accountAt", "(I)LStatementCycle$Account;"⟩
abbrev cX4_checkRange : ByteArray := prog_1_method_53_code
def yX4_checkRange : MethodName := ⟨RX4, "checkRange", "(III)V"⟩
def RX5 : String := "StatementCycleModel$Account"
def TX5 : u_T := fun k => match k with
  | 0 => ("StatementCycleModel$Account", "limit", "I", false)
  | 1 => ("StatementCycleModel$Account", "isBlocked", "Z", false)
  | 2 => ("StatementCycleModel$Account", "events", "Ljava/util/List;", true)
  | _ => ("StatementCycleModel$Account", "told", "[Ljava/lang/Long;", true)
def tyX5 : Nat → FieldType := fun k => match k with
  | 0 => .int
  | 1 => .boolean
  | 2 => .object "java/util/List"
  | _ => .array (.object "java/lang/Long")
theorem nmX5 : ∀ a, a < 4 → ∀ b, b < 4 → a ≠ b → (TX5 a).2.1 ≠ (TX5 b).2.1 := by decide +kernel
theorem tyX5_ok : ∀ k, k < 4 → parseFieldDescriptor (TX5 k).2.2.1 = some (tyX5 k) := by decide +kernel
abbrev cX5_init : ByteArray := prog_8_method_1_code
def yX5_init : MethodName := ⟨RX5, "<init>", "()V"⟩
def RX8 : String := "StatementCycleModel"
def TX8 : u_T := fun k => match k with
  | 0 => ("StatementCycleModel", "accounts", "Ljava/util/List;", true)
  | 1 => ("StatementCycleModel", "currencies", "[I", true)
  | 2 => ("StatementCycleModel", "day", "I", false)
  | _ => ("StatementCycleModel", "thrown", "I", false)
def tyX8 : Nat → FieldType := fun k => match k with
  | 0 => .object "java/util/List"
  | 1 => .array .int
  | 2 => .int
  | _ => .int
theorem nmX8 : ∀ a, a < 4 → ∀ b, b < 4 → a ≠ b → (TX8 a).2.1 ≠ (TX8 b).2.1 := by decide +kernel
theorem tyX8_ok : ∀ k, k < 4 → parseFieldDescriptor (TX8 k).2.2.1 = some (tyX8 k) := by decide +kernel
abbrev cX8_init : ByteArray := prog_7_method_1_code
def yX8_init : MethodName := ⟨RX8, "<init>", "()V"⟩
abbrev cX8_thrown : ByteArray := prog_7_method_2_code
def yX8_thrown : MethodName := ⟨RX8, "thrown", "()I"⟩
abbrev cX8_no : ByteArray := prog_7_method_3_code
def yX8_no : MethodName := ⟨RX8, "no", "(ZI)Z"⟩
abbrev cX8_isIn : ByteArray := prog_7_method_4_code
def yX8_isIn : MethodName := ⟨RX8, "isIn", "(III)Z"⟩
abbrev cX8_isAccount : ByteArray := prog_7_method_5_code
def yX8_isAccount : MethodName := ⟨RX8, "isAccount", "(I)Z"⟩
abbrev cX8_isEvent : ByteArray := prog_7_method_6_code
def yX8_isEvent : MethodName := ⟨RX8, "isEvent", "(II)Z"⟩
abbrev cX8_open : ByteArray := prog_7_method_12_code
def yX8_open : MethodName := ⟨RX8, "open", "(I)I"⟩
abbrev cX8_setLimit : ByteArray := prog_7_method_13_code
def yX8_setLimit : MethodName := ⟨RX8, "setLimit", "(II)I"⟩
abbrev cX8_block : ByteArray := prog_7_method_14_code
def yX8_block : MethodName := ⟨RX8, "block", "(IZ)Z"⟩
abbrev cX8_setRate : ByteArray := prog_7_method_15_code
def yX8_setRate : MethodName := ⟨RX8, "setRate", "(ICI)I"⟩
abbrev cX8_promote : ByteArray := prog_7_method_16_code
def yX8_promote : MethodName := ⟨RX8, "promote", "(III)I"⟩
abbrev cX8_setCurrency : ByteArray := prog_7_method_17_code
def yX8_setCurrency : MethodName := ⟨RX8, "setCurrency", "(II)I"⟩
abbrev cX8_buy : ByteArray := prog_7_method_20_code
def yX8_buy : MethodName := ⟨RX8, "buy", "(ICI)I"⟩
abbrev cX8_buyOn : ByteArray := prog_7_method_21_code
def yX8_buyOn : MethodName := ⟨RX8, "buyOn", "(ICII)I"⟩
abbrev cX8_abroad : ByteArray := prog_7_method_22_code
def yX8_abroad : MethodName := ⟨RX8, "abroad", "(III)I"⟩
abbrev cX8_pay : ByteArray := prog_7_method_23_code
def yX8_pay : MethodName := ⟨RX8, "pay", "(II)I"⟩
abbrev cX8_returns : ByteArray := prog_7_method_24_code
def yX8_returns : MethodName := ⟨RX8, "returns", "(II)I"⟩
abbrev cX8_dispute : ByteArray := prog_7_method_25_code
def yX8_dispute : MethodName := ⟨RX8, "dispute", "(II)I"⟩
abbrev cX8_settle : ByteArray := prog_7_method_26_code
def yX8_settle : MethodName := ⟨RX8, "settle", "(IIZ)J"⟩
abbrev cX8_reverse : ByteArray := prog_7_method_27_code
def yX8_reverse : MethodName := ⟨RX8, "reverse", "(II)J"⟩
abbrev cX8_plan : ByteArray := prog_7_method_28_code
def yX8_plan : MethodName := ⟨RX8, "plan", "(I)I"⟩
abbrev cX8_redeem : ByteArray := prog_7_method_30_code
def yX8_redeem : MethodName := ⟨RX8, "redeem", "(II)I"⟩
abbrev cX8_pass : ByteArray := prog_7_method_31_code
def yX8_pass : MethodName := ⟨RX8, "pass", "(I)I"⟩
abbrev cX8_owed : ByteArray := prog_7_method_32_code
def yX8_owed : MethodName := ⟨RX8, "owed", "(I)J"⟩
abbrev cX8_bucket : ByteArray := prog_7_method_33_code
def yX8_bucket : MethodName := ⟨RX8, "bucket", "(IC)J"⟩
abbrev cX8_credit : ByteArray := prog_7_method_34_code
def yX8_credit : MethodName := ⟨RX8, "credit", "(I)J"⟩
abbrev cX8_statement : ByteArray := prog_7_method_36_code
def yX8_statement : MethodName := ⟨RX8, "statement", "(II)J"⟩
abbrev cX8_told : ByteArray := prog_7_method_38_code
def yX8_told : MethodName := ⟨RX8, "told", "(II)J"⟩
abbrev cX8_difference : ByteArray := prog_7_method_39_code
def yX8_difference : MethodName := ⟨RX8, "difference", "(II)J"⟩
abbrev cX8_least : ByteArray := prog_7_method_40_code
def yX8_least : MethodName := ⟨RX8, "least", "(II)J"⟩
abbrev cX8_interest : ByteArray := prog_7_method_41_code
def yX8_interest : MethodName := ⟨RX8, "interest", "(II)J"⟩
abbrev cX8_hadGrace : ByteArray := prog_7_method_42_code
def yX8_hadGrace : MethodName := ⟨RX8, "hadGrace", "(II)Z"⟩
abbrev cX8_paid : ByteArray := prog_7_method_43_code
def yX8_paid : MethodName := ⟨RX8, "paid", "(II)C"⟩
abbrev cX8_missing : ByteArray := prog_7_method_44_code
def yX8_missing : MethodName := ⟨RX8, "missing", "(I)J"⟩
abbrev cX8_missed : ByteArray := prog_7_method_45_code
def yX8_missed : MethodName := ⟨RX8, "missed", "(I)I"⟩
abbrev cX8_isOff : ByteArray := prog_7_method_46_code
def yX8_isOff : MethodName := ⟨RX8, "isOff", "(I)Z"⟩
abbrev cX8_points : ByteArray := prog_7_method_47_code
def yX8_points : MethodName := ⟨RX8, "points", "(I)J"⟩
abbrev cX8_events : ByteArray := prog_7_method_48_code
def yX8_events : MethodName := ⟨RX8, "events", "(I)I"⟩
abbrev cX8_kindOf : ByteArray := prog_7_method_49_code
def yX8_kindOf : MethodName := ⟨RX8, "kindOf", "(II)C"⟩
abbrev cX8_isBack : ByteArray := prog_7_method_50_code
def yX8_isBack : MethodName := ⟨RX8, "isBack", "(II)Z"⟩
abbrev cX8_sum : ByteArray := prog_7_method_51_code
def yX8_sum : MethodName := ⟨RX8, "sum", "(II)I"⟩
abbrev cX8_why : ByteArray := prog_7_method_52_code
def yX8_why : MethodName := ⟨RX8, "why", "(ICI)C"⟩
abbrev cX8_reasons : ByteArray := prog_7_method_53_code
def yX8_reasons : MethodName := ⟨RX8, "reasons", "(ICI)I"⟩
abbrev cX8_collected : ByteArray := prog_7_method_54_code
def yX8_collected : MethodName := ⟨RX8, "collected", "()J"⟩
abbrev cX8_today : ByteArray := prog_7_method_55_code
def yX8_today : MethodName := ⟨RX8, "today", "()I"⟩
abbrev cX8_checksum : ByteArray := prog_7_method_56_code
def yX8_checksum : MethodName := ⟨RX8, "checksum", "()J"⟩
abbrev cX8_missedShare : ByteArray := prog_7_method_57_code
def yX8_missedShare : MethodName := ⟨RX8, "missedShare", "()F"⟩
abbrev cX8_meanOwed : ByteArray := prog_7_method_58_code
def yX8_meanOwed : MethodName := ⟨RX8, "meanOwed", "()D"⟩
abbrev cX8_isSound : ByteArray := prog_7_method_59_code
def yX8_isSound : MethodName := ⟨RX8, "isSound", "()Z"⟩
def RJ13 : String := "java/lang/Long"
def RJ9 : String := "java/lang/Math"
def yJ9_max_7cf53 : MethodName := ⟨RJ9, "max", "(II)I"⟩
def RJxa1e45 : String := "java/util/AbstractCollection"
abbrev cJxa1e45_init_da8c8 : ByteArray := prog_40_method_1_code
def yJxa1e45_init_da8c8 : MethodName := ⟨RJxa1e45, "<init>", "()V"⟩
def RJxc12de : String := "java/util/AbstractList"
abbrev cJxc12de_init_da8c8 : ByteArray := prog_41_method_1_code
def yJxc12de_init_da8c8 : MethodName := ⟨RJxc12de, "<init>", "()V"⟩
def RJx35411 : String := "java/util/ArrayList$Itr"
def TJx35411 : u_T := fun k => match k with
  | 0 => ("java/util/ArrayList$Itr", "cursor", "I", false)
  | 1 => ("java/util/ArrayList$Itr", "lastRet", "I", false)
  | 2 => ("java/util/ArrayList$Itr", "expectedModCount", "I", false)
  | _ => ("java/util/ArrayList$Itr", "this$0", "Ljava/util/ArrayList;", true)
def tyJx35411 : Nat → FieldType := fun k => match k with
  | 0 => .int
  | 1 => .int
  | 2 => .int
  | _ => .object "java/util/ArrayList"
theorem nmJx35411 : ∀ a, a < 4 → ∀ b, b < 4 → a ≠ b → (TJx35411 a).2.1 ≠ (TJx35411 b).2.1 := by decide +kernel
theorem tyJx35411_ok : ∀ k, k < 4 → parseFieldDescriptor (TJx35411 k).2.2.1 = some (tyJx35411 k) := by decide +kernel
abbrev cJx35411_init_45d68 : ByteArray := prog_43_method_1_code
def yJx35411_init_45d68 : MethodName := ⟨RJx35411, "<init>", "(Ljava/util/ArrayList;)V"⟩
abbrev cJx35411_hasNext_aae02 : ByteArray := prog_43_method_2_code
def yJx35411_hasNext_aae02 : MethodName := ⟨RJx35411, "hasNext", "()Z"⟩
def RJx4a65c : String := "java/util/ArrayList"
def TJx4a65c : u_T := fun k => match k with
  | 0 => ("java/util/AbstractList", "modCount", "I", false)
  | 1 => ("java/util/ArrayList", "elementData", "[Ljava/lang/Object;", false)
  | _ => ("java/util/ArrayList", "size", "I", false)
def tyJx4a65c : Nat → FieldType := fun k => match k with
  | 0 => .int
  | 1 => .array (.object "java/lang/Object")
  | _ => .int
theorem nmJx4a65c : ∀ a, a < 3 → ∀ b, b < 3 → a ≠ b → (TJx4a65c a).2.1 ≠ (TJx4a65c b).2.1 := by decide +kernel
theorem tyJx4a65c_ok : ∀ k, k < 3 → parseFieldDescriptor (TJx4a65c k).2.2.1 = some (tyJx4a65c k) := by decide +kernel
abbrev cJx4a65c_init_da8c8 : ByteArray := prog_42_method_2_code
def yJx4a65c_init_da8c8 : MethodName := ⟨RJx4a65c, "<init>", "()V"⟩
abbrev cJx4a65c_grow_92f84 : ByteArray := prog_42_method_6_code
def yJx4a65c_grow_92f84 : MethodName := ⟨RJx4a65c, "grow", "(I)[Ljava/lang/Object;"⟩
abbrev cJx4a65c_grow_d5877 : ByteArray := prog_42_method_7_code
def yJx4a65c_grow_d5877 : MethodName := ⟨RJx4a65c, "grow", "()[Ljava/lang/Object;"⟩
abbrev cJx4a65c_size_8abf5 : ByteArray := prog_42_method_8_code
def yJx4a65c_size_8abf5 : MethodName := ⟨RJx4a65c, "size", "()I"⟩
abbrev cJx4a65c_isEmpty_aae02 : ByteArray := prog_42_method_9_code
def yJx4a65c_isEmpty_aae02 : MethodName := ⟨RJx4a65c, "isEmpty", "()Z"⟩
abbrev cJx4a65c_elementData_915e3 : ByteArray := prog_42_method_18_code
def yJx4a65c_elementData_915e3 : MethodName := ⟨RJx4a65c, "elementData", "(I)Ljava/lang/Object;"⟩
abbrev cJx4a65c_get_915e3 : ByteArray := prog_42_method_20_code
def yJx4a65c_get_915e3 : MethodName := ⟨RJx4a65c, "get", "(I)Ljava/lang/Object;"⟩
abbrev cJx4a65c_add_72be8 : ByteArray := prog_42_method_24_code
def yJx4a65c_add_72be8 : MethodName := ⟨RJx4a65c, "add", "(Ljava/lang/Object;[Ljava/lang/Object;I)V"⟩
abbrev cJx4a65c_add_9ea2d : ByteArray := prog_42_method_25_code
def yJx4a65c_add_9ea2d : MethodName := ⟨RJx4a65c, "add", "(Ljava/lang/Object;)Z"⟩
abbrev cJx4a65c_iterator_32c93 : ByteArray := prog_42_method_55_code
def yJx4a65c_iterator_32c93 : MethodName := ⟨RJx4a65c, "iterator", "()Ljava/util/Iterator;"⟩
def RJ15 : String := "java/util/Objects"
abbrev cJ15_checkIndex_7cf53 : ByteArray := prog_49_method_17_code
def yJ15_checkIndex_7cf53 : MethodName := ⟨RJ15, "checkIndex", "(II)I"⟩
def RJ3 : String := "jdk/internal/util/Preconditions"
abbrev cJ3_checkIndex_8e157 : ByteArray := prog_53_method_11_code
def yJ3_checkIndex_8e157 : MethodName := ⟨RJ3, "checkIndex", "(IILjava/util/function/BiFunction;)I"⟩
def RL : String := "StatementCycleLaw"
abbrev cL_open : ByteArray := method_3_code
def yL_open : MethodName := ⟨RL, "open", "(LStatementCycle;I[J)I"⟩
abbrev cL_setLimit : ByteArray := method_4_code
def yL_setLimit : MethodName := ⟨RL, "setLimit", "(LStatementCycle;II[J)I"⟩
abbrev cL_block : ByteArray := method_5_code
def yL_block : MethodName := ⟨RL, "block", "(LStatementCycle;IZ[J)I"⟩
abbrev cL_setRate : ByteArray := method_6_code
def yL_setRate : MethodName := ⟨RL, "setRate", "(LStatementCycle;ICI[J)I"⟩
abbrev cL_promote : ByteArray := method_7_code
def yL_promote : MethodName := ⟨RL, "promote", "(LStatementCycle;III[J)I"⟩
abbrev cL_setCurrency : ByteArray := method_8_code
def yL_setCurrency : MethodName := ⟨RL, "setCurrency", "(LStatementCycle;II[J)I"⟩
abbrev cL_buy : ByteArray := method_9_code
def yL_buy : MethodName := ⟨RL, "buy", "(LStatementCycle;ICI[J)I"⟩
abbrev cL_buyOn : ByteArray := method_10_code
def yL_buyOn : MethodName := ⟨RL, "buyOn", "(LStatementCycle;ICII[J)I"⟩
abbrev cL_abroad : ByteArray := method_11_code
def yL_abroad : MethodName := ⟨RL, "abroad", "(LStatementCycle;III[J)I"⟩
abbrev cL_pay : ByteArray := method_12_code
def yL_pay : MethodName := ⟨RL, "pay", "(LStatementCycle;II[J)I"⟩
abbrev cL_returns : ByteArray := method_13_code
def yL_returns : MethodName := ⟨RL, "returns", "(LStatementCycle;II[J)I"⟩
abbrev cL_dispute : ByteArray := method_14_code
def yL_dispute : MethodName := ⟨RL, "dispute", "(LStatementCycle;II[J)I"⟩
abbrev cL_settle : ByteArray := method_15_code
def yL_settle : MethodName := ⟨RL, "settle", "(LStatementCycle;IIZ[J)I"⟩
abbrev cL_reverse : ByteArray := method_16_code
def yL_reverse : MethodName := ⟨RL, "reverse", "(LStatementCycle;II[J)I"⟩
abbrev cL_plan : ByteArray := method_17_code
def yL_plan : MethodName := ⟨RL, "plan", "(LStatementCycle;I[J)I"⟩
abbrev cL_redeem : ByteArray := method_18_code
def yL_redeem : MethodName := ⟨RL, "redeem", "(LStatementCycle;II[J)I"⟩
abbrev cL_pass : ByteArray := method_19_code
def yL_pass : MethodName := ⟨RL, "pass", "(LStatementCycle;I[J)I"⟩
abbrev cL_owed : ByteArray := method_20_code
def yL_owed : MethodName := ⟨RL, "owed", "(LStatementCycle;I[J)I"⟩
abbrev cL_bucket : ByteArray := method_21_code
def yL_bucket : MethodName := ⟨RL, "bucket", "(LStatementCycle;IC[J)I"⟩
abbrev cL_credit : ByteArray := method_22_code
def yL_credit : MethodName := ⟨RL, "credit", "(LStatementCycle;I[J)I"⟩
abbrev cL_statement : ByteArray := method_23_code
def yL_statement : MethodName := ⟨RL, "statement", "(LStatementCycle;II[J)I"⟩
abbrev cL_told : ByteArray := method_24_code
def yL_told : MethodName := ⟨RL, "told", "(LStatementCycle;II[J)I"⟩
abbrev cL_difference : ByteArray := method_25_code
def yL_difference : MethodName := ⟨RL, "difference", "(LStatementCycle;II[J)I"⟩
abbrev cL_least : ByteArray := method_26_code
def yL_least : MethodName := ⟨RL, "least", "(LStatementCycle;II[J)I"⟩
abbrev cL_interest : ByteArray := method_27_code
def yL_interest : MethodName := ⟨RL, "interest", "(LStatementCycle;II[J)I"⟩
abbrev cL_hadGrace : ByteArray := method_28_code
def yL_hadGrace : MethodName := ⟨RL, "hadGrace", "(LStatementCycle;II[J)I"⟩
abbrev cL_paid : ByteArray := method_29_code
def yL_paid : MethodName := ⟨RL, "paid", "(LStatementCycle;II[J)I"⟩
abbrev cL_missing : ByteArray := method_30_code
def yL_missing : MethodName := ⟨RL, "missing", "(LStatementCycle;I[J)I"⟩
abbrev cL_missed : ByteArray := method_31_code
def yL_missed : MethodName := ⟨RL, "missed", "(LStatementCycle;I[J)I"⟩
abbrev cL_isOff : ByteArray := method_32_code
def yL_isOff : MethodName := ⟨RL, "isOff", "(LStatementCycle;I[J)I"⟩
abbrev cL_points : ByteArray := method_33_code
def yL_points : MethodName := ⟨RL, "points", "(LStatementCycle;I[J)I"⟩
abbrev cL_events : ByteArray := method_34_code
def yL_events : MethodName := ⟨RL, "events", "(LStatementCycle;I[J)I"⟩
abbrev cL_kindOf : ByteArray := method_35_code
def yL_kindOf : MethodName := ⟨RL, "kindOf", "(LStatementCycle;II[J)I"⟩
abbrev cL_isBack : ByteArray := method_36_code
def yL_isBack : MethodName := ⟨RL, "isBack", "(LStatementCycle;II[J)I"⟩
abbrev cL_sum : ByteArray := method_37_code
def yL_sum : MethodName := ⟨RL, "sum", "(LStatementCycle;II[J)I"⟩
abbrev cL_why : ByteArray := method_38_code
def yL_why : MethodName := ⟨RL, "why", "(LStatementCycle;ICI[J)I"⟩
abbrev cL_reasons : ByteArray := method_39_code
def yL_reasons : MethodName := ⟨RL, "reasons", "(LStatementCycle;ICI[J)I"⟩
abbrev cL_missedShare : ByteArray := method_40_code
def yL_missedShare : MethodName := ⟨RL, "missedShare", "(LStatementCycle;[D)I"⟩
abbrev cL_meanOwed : ByteArray := method_41_code
def yL_meanOwed : MethodName := ⟨RL, "meanOwed", "(LStatementCycle;[D)I"⟩
abbrev cL_law : ByteArray := code
theorem dJ15_checkIndex_7cf53_0 : decode cJ15_checkIndex_7cf53 0 = .ok (.iload_n 0, 1) := by decide +kernel
theorem dJ15_checkIndex_7cf53_1 : decode cJ15_checkIndex_7cf53 1 = .ok (.iload_n 1, 1) := by decide +kernel
theorem dJ15_checkIndex_7cf53_2 : decode cJ15_checkIndex_7cf53 2 = .ok (.aconst_null, 1) := by decide +kernel
theorem dJ15_checkIndex_7cf53_3 : decode cJ15_checkIndex_7cf53 3 = .ok (.invokestatic 105, 3) := by decide +kernel
theorem dJ15_checkIndex_7cf53_6 : decode cJ15_checkIndex_7cf53 6 = .ok (.ireturn, 1) := by decide +kernel
theorem dJ3_checkIndex_8e157_0 : decode cJ3_checkIndex_8e157 0 = .ok (.iload_n 0, 1) := by decide +kernel
theorem dJ3_checkIndex_8e157_1 : decode cJ3_checkIndex_8e157 1 = .ok (.ifCond .lt 8, 3) := by decide +kernel
theorem dJ3_checkIndex_8e157_4 : decode cJ3_checkIndex_8e157 4 = .ok (.iload_n 0, 1) := by decide +kernel
theorem dJ3_checkIndex_8e157_5 : decode cJ3_checkIndex_8e157 5 = .ok (.iload_n 1, 1) := by decide +kernel
theorem dJ3_checkIndex_8e157_6 : decode cJ3_checkIndex_8e157 6 = .ok (.if_icmp .lt 10, 3) := by decide +kernel
theorem dJ3_checkIndex_8e157_16 : decode cJ3_checkIndex_8e157 16 = .ok (.iload_n 0, 1) := by decide +kernel
theorem dJ3_checkIndex_8e157_17 : decode cJ3_checkIndex_8e157 17 = .ok (.ireturn, 1) := by decide +kernel
theorem dJx35411_hasNext_aae02_0 : decode cJx35411_hasNext_aae02 0 = .ok (.aload_n 0, 1) := by decide +kernel
theorem dJx35411_hasNext_aae02_1 : decode cJx35411_hasNext_aae02 1 = .ok (.getfield 25, 3) := by decide +kernel
theorem dJx35411_hasNext_aae02_4 : decode cJx35411_hasNext_aae02 4 = .ok (.aload_n 0, 1) := by decide +kernel
theorem dJx35411_hasNext_aae02_5 : decode cJx35411_hasNext_aae02 5 = .ok (.getfield 1, 3) := by decide +kernel
theorem dJx35411_hasNext_aae02_8 : decode cJx35411_hasNext_aae02 8 = .ok (.getfield 28, 3) := by decide +kernel
theorem dJx35411_hasNext_aae02_11 : decode cJx35411_hasNext_aae02 11 = .ok (.if_icmp .eq 7, 3) := by decide +kernel
theorem dJx35411_hasNext_aae02_18 : decode cJx35411_hasNext_aae02 18 = .ok (.iconst 0, 1) := by decide +kernel
theorem dJx35411_hasNext_aae02_19 : decode cJx35411_hasNext_aae02 19 = .ok (.ireturn, 1) := by decide +kernel
theorem dJx35411_init_45d68_0 : decode cJx35411_init_45d68 0 = .ok (.aload_n 0, 1) := by decide +kernel
theorem dJx35411_init_45d68_1 : decode cJx35411_init_45d68 1 = .ok (.aload_n 1, 1) := by decide +kernel
theorem dJx35411_init_45d68_2 : decode cJx35411_init_45d68 2 = .ok (.putfield 1, 3) := by decide +kernel
theorem dJx35411_init_45d68_5 : decode cJx35411_init_45d68 5 = .ok (.aload_n 0, 1) := by decide +kernel
theorem dJx35411_init_45d68_6 : decode cJx35411_init_45d68 6 = .ok (.invokespecial 7, 3) := by decide +kernel
theorem dJx35411_init_45d68_9 : decode cJx35411_init_45d68 9 = .ok (.aload_n 0, 1) := by decide +kernel
theorem dJx35411_init_45d68_10 : decode cJx35411_init_45d68 10 = .ok (.iconst (-1), 1) := by decide +kernel
theorem dJx35411_init_45d68_11 : decode cJx35411_init_45d68 11 = .ok (.putfield 13, 3) := by decide +kernel
theorem dJx35411_init_45d68_14 : decode cJx35411_init_45d68 14 = .ok (.aload_n 0, 1) := by decide +kernel
theorem dJx35411_init_45d68_15 : decode cJx35411_init_45d68 15 = .ok (.aload_n 0, 1) := by decide +kernel
theorem dJx35411_init_45d68_16 : decode cJx35411_init_45d68 16 = .ok (.getfield 1, 3) := by decide +kernel
theorem dJx35411_init_45d68_19 : decode cJx35411_init_45d68 19 = .ok (.getfield 17, 3) := by decide +kernel
theorem dJx35411_init_45d68_22 : decode cJx35411_init_45d68 22 = .ok (.putfield 22, 3) := by decide +kernel
theorem dJx35411_init_45d68_25 : decode cJx35411_init_45d68 25 = .ok (.return_, 1) := by decide +kernel
theorem dJx4a65c_add_72be8_0 : decode cJx4a65c_add_72be8 0 = .ok (.iload_n 3, 1) := by decide +kernel
theorem dJx4a65c_add_72be8_1 : decode cJx4a65c_add_72be8 1 = .ok (.aload_n 2, 1) := by decide +kernel
theorem dJx4a65c_add_72be8_2 : decode cJx4a65c_add_72be8 2 = .ok (.arraylength, 1) := by decide +kernel
theorem dJx4a65c_add_72be8_3 : decode cJx4a65c_add_72be8 3 = .ok (.if_icmp .ne 8, 3) := by decide +kernel
theorem dJx4a65c_add_72be8_6 : decode cJx4a65c_add_72be8 6 = .ok (.aload_n 0, 1) := by decide +kernel
theorem dJx4a65c_add_72be8_7 : decode cJx4a65c_add_72be8 7 = .ok (.invokevirtual 129, 3) := by decide +kernel
theorem dJx4a65c_add_72be8_10 : decode cJx4a65c_add_72be8 10 = .ok (.astore_n 2, 1) := by decide +kernel
theorem dJx4a65c_add_72be8_11 : decode cJx4a65c_add_72be8 11 = .ok (.aload_n 2, 1) := by decide +kernel
theorem dJx4a65c_add_72be8_12 : decode cJx4a65c_add_72be8 12 = .ok (.iload_n 3, 1) := by decide +kernel
theorem dJx4a65c_add_72be8_13 : decode cJx4a65c_add_72be8 13 = .ok (.aload_n 1, 1) := by decide +kernel
theorem dJx4a65c_add_72be8_14 : decode cJx4a65c_add_72be8 14 = .ok (.aastore, 1) := by decide +kernel
theorem dJx4a65c_add_72be8_15 : decode cJx4a65c_add_72be8 15 = .ok (.aload_n 0, 1) := by decide +kernel
theorem dJx4a65c_add_72be8_16 : decode cJx4a65c_add_72be8 16 = .ok (.iload_n 3, 1) := by decide +kernel
theorem dJx4a65c_add_72be8_17 : decode cJx4a65c_add_72be8 17 = .ok (.iconst 1, 1) := by decide +kernel
theorem dJx4a65c_add_72be8_18 : decode cJx4a65c_add_72be8 18 = .ok (.iadd, 1) := by decide +kernel
theorem dJx4a65c_add_72be8_19 : decode cJx4a65c_add_72be8 19 = .ok (.putfield 48, 3) := by decide +kernel
theorem dJx4a65c_add_72be8_22 : decode cJx4a65c_add_72be8 22 = .ok (.return_, 1) := by decide +kernel
theorem dJx4a65c_add_9ea2d_0 : decode cJx4a65c_add_9ea2d 0 = .ok (.aload_n 0, 1) := by decide +kernel
theorem dJx4a65c_add_9ea2d_1 : decode cJx4a65c_add_9ea2d 1 = .ok (.dup, 1) := by decide +kernel
theorem dJx4a65c_add_9ea2d_2 : decode cJx4a65c_add_9ea2d 2 = .ok (.getfield 63, 3) := by decide +kernel
theorem dJx4a65c_add_9ea2d_5 : decode cJx4a65c_add_9ea2d 5 = .ok (.iconst 1, 1) := by decide +kernel
theorem dJx4a65c_add_9ea2d_6 : decode cJx4a65c_add_9ea2d 6 = .ok (.iadd, 1) := by decide +kernel
theorem dJx4a65c_add_9ea2d_7 : decode cJx4a65c_add_9ea2d 7 = .ok (.putfield 63, 3) := by decide +kernel
theorem dJx4a65c_add_9ea2d_10 : decode cJx4a65c_add_9ea2d 10 = .ok (.aload_n 0, 1) := by decide +kernel
theorem dJx4a65c_add_9ea2d_11 : decode cJx4a65c_add_9ea2d 11 = .ok (.aload_n 1, 1) := by decide +kernel
theorem dJx4a65c_add_9ea2d_12 : decode cJx4a65c_add_9ea2d 12 = .ok (.aload_n 0, 1) := by decide +kernel
theorem dJx4a65c_add_9ea2d_13 : decode cJx4a65c_add_9ea2d 13 = .ok (.getfield 9, 3) := by decide +kernel
theorem dJx4a65c_add_9ea2d_16 : decode cJx4a65c_add_9ea2d 16 = .ok (.aload_n 0, 1) := by decide +kernel
theorem dJx4a65c_add_9ea2d_17 : decode cJx4a65c_add_9ea2d 17 = .ok (.getfield 48, 3) := by decide +kernel
theorem dJx4a65c_add_9ea2d_20 : decode cJx4a65c_add_9ea2d 20 = .ok (.invokevirtual 131, 3) := by decide +kernel
theorem dJx4a65c_add_9ea2d_23 : decode cJx4a65c_add_9ea2d 23 = .ok (.iconst 1, 1) := by decide +kernel
theorem dJx4a65c_add_9ea2d_24 : decode cJx4a65c_add_9ea2d 24 = .ok (.ireturn, 1) := by decide +kernel
theorem dJx4a65c_elementData_915e3_0 : decode cJx4a65c_elementData_915e3 0 = .ok (.aload_n 0, 1) := by decide +kernel
theorem dJx4a65c_elementData_915e3_1 : decode cJx4a65c_elementData_915e3 1 = .ok (.getfield 9, 3) := by decide +kernel
theorem dJx4a65c_elementData_915e3_4 : decode cJx4a65c_elementData_915e3 4 = .ok (.iload_n 1, 1) := by decide +kernel
theorem dJx4a65c_elementData_915e3_5 : decode cJx4a65c_elementData_915e3 5 = .ok (.aaload, 1) := by decide +kernel
theorem dJx4a65c_elementData_915e3_6 : decode cJx4a65c_elementData_915e3 6 = .ok (.areturn, 1) := by decide +kernel
theorem dJx4a65c_get_915e3_0 : decode cJx4a65c_get_915e3 0 = .ok (.iload_n 1, 1) := by decide +kernel
theorem dJx4a65c_get_915e3_1 : decode cJx4a65c_get_915e3 1 = .ok (.aload_n 0, 1) := by decide +kernel
theorem dJx4a65c_get_915e3_2 : decode cJx4a65c_get_915e3 2 = .ok (.getfield 48, 3) := by decide +kernel
theorem dJx4a65c_get_915e3_5 : decode cJx4a65c_get_915e3 5 = .ok (.invokestatic 118, 3) := by decide +kernel
theorem dJx4a65c_get_915e3_8 : decode cJx4a65c_get_915e3 8 = .ok (.pop, 1) := by decide +kernel
theorem dJx4a65c_get_915e3_9 : decode cJx4a65c_get_915e3 9 = .ok (.aload_n 0, 1) := by decide +kernel
theorem dJx4a65c_get_915e3_10 : decode cJx4a65c_get_915e3 10 = .ok (.iload_n 1, 1) := by decide +kernel
theorem dJx4a65c_get_915e3_11 : decode cJx4a65c_get_915e3 11 = .ok (.invokevirtual 123, 3) := by decide +kernel
theorem dJx4a65c_get_915e3_14 : decode cJx4a65c_get_915e3 14 = .ok (.areturn, 1) := by decide +kernel
theorem dJx4a65c_grow_92f84_0 : decode cJx4a65c_grow_92f84 0 = .ok (.aload_n 0, 1) := by decide +kernel
theorem dJx4a65c_grow_92f84_1 : decode cJx4a65c_grow_92f84 1 = .ok (.getfield 9, 3) := by decide +kernel
theorem dJx4a65c_grow_92f84_4 : decode cJx4a65c_grow_92f84 4 = .ok (.arraylength, 1) := by decide +kernel
theorem dJx4a65c_grow_92f84_5 : decode cJx4a65c_grow_92f84 5 = .ok (.istore_n 2, 1) := by decide +kernel
theorem dJx4a65c_grow_92f84_6 : decode cJx4a65c_grow_92f84 6 = .ok (.iload_n 2, 1) := by decide +kernel
theorem dJx4a65c_grow_92f84_7 : decode cJx4a65c_grow_92f84 7 = .ok (.ifCond .gt 13, 3) := by decide +kernel
theorem dJx4a65c_grow_92f84_10 : decode cJx4a65c_grow_92f84 10 = .ok (.aload_n 0, 1) := by decide +kernel
theorem dJx4a65c_grow_92f84_11 : decode cJx4a65c_grow_92f84 11 = .ok (.getfield 9, 3) := by decide +kernel
theorem dJx4a65c_grow_92f84_14 : decode cJx4a65c_grow_92f84 14 = .ok (.getstatic 39, 3) := by decide +kernel
theorem dJx4a65c_grow_92f84_17 : decode cJx4a65c_grow_92f84 17 = .ok (.if_acmp .eq 28, 3) := by decide +kernel
theorem dJx4a65c_grow_92f84_45 : decode cJx4a65c_grow_92f84 45 = .ok (.aload_n 0, 1) := by decide +kernel
theorem dJx4a65c_grow_92f84_46 : decode cJx4a65c_grow_92f84 46 = .ok (.bipush 10, 2) := by decide +kernel
theorem dJx4a65c_grow_92f84_48 : decode cJx4a65c_grow_92f84 48 = .ok (.iload_n 1, 1) := by decide +kernel
theorem dJx4a65c_grow_92f84_49 : decode cJx4a65c_grow_92f84 49 = .ok (.invokestatic 79, 3) := by decide +kernel
theorem dJx4a65c_grow_92f84_52 : decode cJx4a65c_grow_92f84 52 = .ok (.anewarray 7, 3) := by decide +kernel
theorem dJx4a65c_grow_92f84_55 : decode cJx4a65c_grow_92f84 55 = .ok (.dup_x1, 1) := by decide +kernel
theorem dJx4a65c_grow_92f84_56 : decode cJx4a65c_grow_92f84 56 = .ok (.putfield 9, 3) := by decide +kernel
theorem dJx4a65c_grow_92f84_59 : decode cJx4a65c_grow_92f84 59 = .ok (.areturn, 1) := by decide +kernel
theorem dJx4a65c_grow_d5877_0 : decode cJx4a65c_grow_d5877 0 = .ok (.aload_n 0, 1) := by decide +kernel
theorem dJx4a65c_grow_d5877_1 : decode cJx4a65c_grow_d5877 1 = .ok (.aload_n 0, 1) := by decide +kernel
theorem dJx4a65c_grow_d5877_2 : decode cJx4a65c_grow_d5877 2 = .ok (.getfield 48, 3) := by decide +kernel
theorem dJx4a65c_grow_d5877_5 : decode cJx4a65c_grow_d5877 5 = .ok (.iconst 1, 1) := by decide +kernel
theorem dJx4a65c_grow_d5877_6 : decode cJx4a65c_grow_d5877 6 = .ok (.iadd, 1) := by decide +kernel
theorem dJx4a65c_grow_d5877_7 : decode cJx4a65c_grow_d5877 7 = .ok (.invokevirtual 69, 3) := by decide +kernel
theorem dJx4a65c_grow_d5877_10 : decode cJx4a65c_grow_d5877 10 = .ok (.areturn, 1) := by decide +kernel
theorem dJx4a65c_init_da8c8_0 : decode cJx4a65c_init_da8c8 0 = .ok (.aload_n 0, 1) := by decide +kernel
theorem dJx4a65c_init_da8c8_1 : decode cJx4a65c_init_da8c8 1 = .ok (.invokespecial 1, 3) := by decide +kernel
theorem dJx4a65c_init_da8c8_4 : decode cJx4a65c_init_da8c8 4 = .ok (.aload_n 0, 1) := by decide +kernel
theorem dJx4a65c_init_da8c8_5 : decode cJx4a65c_init_da8c8 5 = .ok (.getstatic 39, 3) := by decide +kernel
theorem dJx4a65c_init_da8c8_8 : decode cJx4a65c_init_da8c8 8 = .ok (.putfield 9, 3) := by decide +kernel
theorem dJx4a65c_init_da8c8_11 : decode cJx4a65c_init_da8c8 11 = .ok (.return_, 1) := by decide +kernel
theorem dJx4a65c_isEmpty_aae02_0 : decode cJx4a65c_isEmpty_aae02 0 = .ok (.aload_n 0, 1) := by decide +kernel
theorem dJx4a65c_isEmpty_aae02_1 : decode cJx4a65c_isEmpty_aae02 1 = .ok (.getfield 48, 3) := by decide +kernel
theorem dJx4a65c_isEmpty_aae02_4 : decode cJx4a65c_isEmpty_aae02 4 = .ok (.ifCond .ne 7, 3) := by decide +kernel
theorem dJx4a65c_isEmpty_aae02_7 : decode cJx4a65c_isEmpty_aae02 7 = .ok (.iconst 1, 1) := by decide +kernel
theorem dJx4a65c_isEmpty_aae02_8 : decode cJx4a65c_isEmpty_aae02 8 = .ok (.goto 4, 3) := by decide +kernel
theorem dJx4a65c_isEmpty_aae02_12 : decode cJx4a65c_isEmpty_aae02 12 = .ok (.ireturn, 1) := by decide +kernel
theorem dJx4a65c_iterator_32c93_0 : decode cJx4a65c_iterator_32c93 0 = .ok (.new 267, 3) := by decide +kernel
theorem dJx4a65c_iterator_32c93_3 : decode cJx4a65c_iterator_32c93 3 = .ok (.dup, 1) := by decide +kernel
theorem dJx4a65c_iterator_32c93_4 : decode cJx4a65c_iterator_32c93 4 = .ok (.aload_n 0, 1) := by decide +kernel
theorem dJx4a65c_iterator_32c93_5 : decode cJx4a65c_iterator_32c93 5 = .ok (.invokespecial 269, 3) := by decide +kernel
theorem dJx4a65c_iterator_32c93_8 : decode cJx4a65c_iterator_32c93 8 = .ok (.areturn, 1) := by decide +kernel
theorem dJx4a65c_size_8abf5_0 : decode cJx4a65c_size_8abf5 0 = .ok (.aload_n 0, 1) := by decide +kernel
theorem dJx4a65c_size_8abf5_1 : decode cJx4a65c_size_8abf5 1 = .ok (.getfield 48, 3) := by decide +kernel
theorem dJx4a65c_size_8abf5_4 : decode cJx4a65c_size_8abf5 4 = .ok (.ireturn, 1) := by decide +kernel
theorem dJxa1e45_init_da8c8_0 : decode cJxa1e45_init_da8c8 0 = .ok (.aload_n 0, 1) := by decide +kernel
theorem dJxa1e45_init_da8c8_1 : decode cJxa1e45_init_da8c8 1 = .ok (.invokespecial 1, 3) := by decide +kernel
theorem dJxa1e45_init_da8c8_4 : decode cJxa1e45_init_da8c8 4 = .ok (.return_, 1) := by decide +kernel
theorem dJxc12de_init_da8c8_0 : decode cJxc12de_init_da8c8 0 = .ok (.aload_n 0, 1) := by decide +kernel
theorem dJxc12de_init_da8c8_1 : decode cJxc12de_init_da8c8 1 = .ok (.invokespecial 1, 3) := by decide +kernel
theorem dJxc12de_init_da8c8_4 : decode cJxc12de_init_da8c8 4 = .ok (.aload_n 0, 1) := by decide +kernel
theorem dJxc12de_init_da8c8_5 : decode cJxc12de_init_da8c8 5 = .ok (.iconst 0, 1) := by decide +kernel
theorem dJxc12de_init_da8c8_6 : decode cJxc12de_init_da8c8 6 = .ok (.putfield 7, 3) := by decide +kernel
theorem dJxc12de_init_da8c8_9 : decode cJxc12de_init_da8c8 9 = .ok (.return_, 1) := by decide +kernel
theorem dL_abroad_0 : decode cL_abroad 0 = .ok (.aload 4, 2) := by decide +kernel
theorem dL_abroad_2 : decode cL_abroad 2 = .ok (.iconst 0, 1) := by decide +kernel
theorem dL_abroad_3 : decode cL_abroad 3 = .ok (.aload_n 0, 1) := by decide +kernel
theorem dL_abroad_4 : decode cL_abroad 4 = .ok (.iload_n 1, 1) := by decide +kernel
theorem dL_abroad_5 : decode cL_abroad 5 = .ok (.iload_n 2, 1) := by decide +kernel
theorem dL_abroad_6 : decode cL_abroad 6 = .ok (.iload_n 3, 1) := by decide +kernel
theorem dL_abroad_7 : decode cL_abroad 7 = .ok (.invokevirtual 47, 3) := by decide +kernel
theorem dL_abroad_15 : decode cL_abroad 15 = .ok (.astore 5, 2) := by decide +kernel
theorem dL_abroad_17 : decode cL_abroad 17 = .ok (.iconst 1, 1) := by decide +kernel
theorem dL_abroad_18 : decode cL_abroad 18 = .ok (.ireturn, 1) := by decide +kernel
theorem dL_block_0 : decode cL_block 0 = .ok (.aload_n 3, 1) := by decide +kernel
theorem dL_block_1 : decode cL_block 1 = .ok (.iconst 0, 1) := by decide +kernel
theorem dL_block_2 : decode cL_block 2 = .ok (.aload_n 0, 1) := by decide +kernel
theorem dL_block_3 : decode cL_block 3 = .ok (.iload_n 1, 1) := by decide +kernel
theorem dL_block_4 : decode cL_block 4 = .ok (.iload_n 2, 1) := by decide +kernel
theorem dL_block_5 : decode cL_block 5 = .ok (.invokevirtual 23, 3) := by decide +kernel
theorem dL_block_20 : decode cL_block 20 = .ok (.astore 4, 2) := by decide +kernel
theorem dL_block_22 : decode cL_block 22 = .ok (.iconst 1, 1) := by decide +kernel
theorem dL_block_23 : decode cL_block 23 = .ok (.ireturn, 1) := by decide +kernel
theorem dL_bucket_0 : decode cL_bucket 0 = .ok (.aload_n 3, 1) := by decide +kernel
theorem dL_bucket_1 : decode cL_bucket 1 = .ok (.iconst 0, 1) := by decide +kernel
theorem dL_bucket_2 : decode cL_bucket 2 = .ok (.aload_n 0, 1) := by decide +kernel
theorem dL_bucket_3 : decode cL_bucket 3 = .ok (.iload_n 1, 1) := by decide +kernel
theorem dL_bucket_4 : decode cL_bucket 4 = .ok (.iload_n 2, 1) := by decide +kernel
theorem dL_bucket_5 : decode cL_bucket 5 = .ok (.invokevirtual 80, 3) := by decide +kernel
theorem dL_bucket_12 : decode cL_bucket 12 = .ok (.astore 4, 2) := by decide +kernel
theorem dL_bucket_14 : decode cL_bucket 14 = .ok (.iconst 1, 1) := by decide +kernel
theorem dL_bucket_15 : decode cL_bucket 15 = .ok (.ireturn, 1) := by decide +kernel
theorem dL_buy_0 : decode cL_buy 0 = .ok (.aload 4, 2) := by decide +kernel
theorem dL_buy_2 : decode cL_buy 2 = .ok (.iconst 0, 1) := by decide +kernel
theorem dL_buy_3 : decode cL_buy 3 = .ok (.aload_n 0, 1) := by decide +kernel
theorem dL_buy_4 : decode cL_buy 4 = .ok (.iload_n 1, 1) := by decide +kernel
theorem dL_buy_5 : decode cL_buy 5 = .ok (.iload_n 2, 1) := by decide +kernel
theorem dL_buy_6 : decode cL_buy 6 = .ok (.iload_n 3, 1) := by decide +kernel
theorem dL_buy_7 : decode cL_buy 7 = .ok (.invokevirtual 38, 3) := by decide +kernel
theorem dL_buy_15 : decode cL_buy 15 = .ok (.astore 5, 2) := by decide +kernel
theorem dL_buy_17 : decode cL_buy 17 = .ok (.iconst 1, 1) := by decide +kernel
theorem dL_buy_18 : decode cL_buy 18 = .ok (.ireturn, 1) := by decide +kernel
theorem dL_buyOn_0 : decode cL_buyOn 0 = .ok (.aload 5, 2) := by decide +kernel
theorem dL_buyOn_2 : decode cL_buyOn 2 = .ok (.iconst 0, 1) := by decide +kernel
theorem dL_buyOn_3 : decode cL_buyOn 3 = .ok (.aload_n 0, 1) := by decide +kernel
theorem dL_buyOn_4 : decode cL_buyOn 4 = .ok (.iload_n 1, 1) := by decide +kernel
theorem dL_buyOn_5 : decode cL_buyOn 5 = .ok (.iload_n 2, 1) := by decide +kernel
theorem dL_buyOn_6 : decode cL_buyOn 6 = .ok (.iload_n 3, 1) := by decide +kernel
theorem dL_buyOn_7 : decode cL_buyOn 7 = .ok (.iload 4, 2) := by decide +kernel
theorem dL_buyOn_9 : decode cL_buyOn 9 = .ok (.invokevirtual 43, 3) := by decide +kernel
theorem dL_buyOn_17 : decode cL_buyOn 17 = .ok (.astore 6, 2) := by decide +kernel
theorem dL_buyOn_19 : decode cL_buyOn 19 = .ok (.iconst 1, 1) := by decide +kernel
theorem dL_buyOn_20 : decode cL_buyOn 20 = .ok (.ireturn, 1) := by decide +kernel
theorem dL_credit_0 : decode cL_credit 0 = .ok (.aload_n 2, 1) := by decide +kernel
theorem dL_credit_1 : decode cL_credit 1 = .ok (.iconst 0, 1) := by decide +kernel
theorem dL_credit_2 : decode cL_credit 2 = .ok (.aload_n 0, 1) := by decide +kernel
theorem dL_credit_3 : decode cL_credit 3 = .ok (.iload_n 1, 1) := by decide +kernel
theorem dL_credit_4 : decode cL_credit 4 = .ok (.invokevirtual 84, 3) := by decide +kernel
theorem dL_credit_11 : decode cL_credit 11 = .ok (.astore_n 3, 1) := by decide +kernel
theorem dL_credit_12 : decode cL_credit 12 = .ok (.iconst 1, 1) := by decide +kernel
theorem dL_credit_13 : decode cL_credit 13 = .ok (.ireturn, 1) := by decide +kernel
theorem dL_difference_0 : decode cL_difference 0 = .ok (.aload_n 3, 1) := by decide +kernel
theorem dL_difference_1 : decode cL_difference 1 = .ok (.iconst 0, 1) := by decide +kernel
theorem dL_difference_2 : decode cL_difference 2 = .ok (.aload_n 0, 1) := by decide +kernel
theorem dL_difference_3 : decode cL_difference 3 = .ok (.iload_n 1, 1) := by decide +kernel
theorem dL_difference_4 : decode cL_difference 4 = .ok (.iload_n 2, 1) := by decide +kernel
theorem dL_difference_5 : decode cL_difference 5 = .ok (.invokevirtual 95, 3) := by decide +kernel
theorem dL_difference_12 : decode cL_difference 12 = .ok (.astore 4, 2) := by decide +kernel
theorem dL_difference_14 : decode cL_difference 14 = .ok (.iconst 1, 1) := by decide +kernel
theorem dL_difference_15 : decode cL_difference 15 = .ok (.ireturn, 1) := by decide +kernel
theorem dL_dispute_0 : decode cL_dispute 0 = .ok (.aload_n 3, 1) := by decide +kernel
theorem dL_dispute_1 : decode cL_dispute 1 = .ok (.iconst 0, 1) := by decide +kernel
theorem dL_dispute_2 : decode cL_dispute 2 = .ok (.aload_n 0, 1) := by decide +kernel
theorem dL_dispute_3 : decode cL_dispute 3 = .ok (.iload_n 1, 1) := by decide +kernel
theorem dL_dispute_4 : decode cL_dispute 4 = .ok (.iload_n 2, 1) := by decide +kernel
theorem dL_dispute_5 : decode cL_dispute 5 = .ok (.invokevirtual 56, 3) := by decide +kernel
theorem dL_dispute_13 : decode cL_dispute 13 = .ok (.astore 4, 2) := by decide +kernel
theorem dL_dispute_15 : decode cL_dispute 15 = .ok (.iconst 1, 1) := by decide +kernel
theorem dL_dispute_16 : decode cL_dispute 16 = .ok (.ireturn, 1) := by decide +kernel
theorem dL_events_0 : decode cL_events 0 = .ok (.aload_n 2, 1) := by decide +kernel
theorem dL_events_1 : decode cL_events 1 = .ok (.iconst 0, 1) := by decide +kernel
theorem dL_events_2 : decode cL_events 2 = .ok (.aload_n 0, 1) := by decide +kernel
theorem dL_events_3 : decode cL_events 3 = .ok (.iload_n 1, 1) := by decide +kernel
theorem dL_events_4 : decode cL_events 4 = .ok (.invokevirtual 125, 3) := by decide +kernel
theorem dL_events_12 : decode cL_events 12 = .ok (.astore_n 3, 1) := by decide +kernel
theorem dL_events_13 : decode cL_events 13 = .ok (.iconst 1, 1) := by decide +kernel
theorem dL_events_14 : decode cL_events 14 = .ok (.ireturn, 1) := by decide +kernel
theorem dL_hadGrace_0 : decode cL_hadGrace 0 = .ok (.aload_n 3, 1) := by decide +kernel
theorem dL_hadGrace_1 : decode cL_hadGrace 1 = .ok (.iconst 0, 1) := by decide +kernel
theorem dL_hadGrace_2 : decode cL_hadGrace 2 = .ok (.aload_n 0, 1) := by decide +kernel
theorem dL_hadGrace_3 : decode cL_hadGrace 3 = .ok (.iload_n 1, 1) := by decide +kernel
theorem dL_hadGrace_4 : decode cL_hadGrace 4 = .ok (.iload_n 2, 1) := by decide +kernel
theorem dL_hadGrace_5 : decode cL_hadGrace 5 = .ok (.invokevirtual 104, 3) := by decide +kernel
theorem dL_hadGrace_20 : decode cL_hadGrace 20 = .ok (.astore 4, 2) := by decide +kernel
theorem dL_hadGrace_22 : decode cL_hadGrace 22 = .ok (.iconst 1, 1) := by decide +kernel
theorem dL_hadGrace_23 : decode cL_hadGrace 23 = .ok (.ireturn, 1) := by decide +kernel
theorem dL_interest_0 : decode cL_interest 0 = .ok (.aload_n 3, 1) := by decide +kernel
theorem dL_interest_1 : decode cL_interest 1 = .ok (.iconst 0, 1) := by decide +kernel
theorem dL_interest_2 : decode cL_interest 2 = .ok (.aload_n 0, 1) := by decide +kernel
theorem dL_interest_3 : decode cL_interest 3 = .ok (.iload_n 1, 1) := by decide +kernel
theorem dL_interest_4 : decode cL_interest 4 = .ok (.iload_n 2, 1) := by decide +kernel
theorem dL_interest_5 : decode cL_interest 5 = .ok (.invokevirtual 101, 3) := by decide +kernel
theorem dL_interest_12 : decode cL_interest 12 = .ok (.astore 4, 2) := by decide +kernel
theorem dL_interest_14 : decode cL_interest 14 = .ok (.iconst 1, 1) := by decide +kernel
theorem dL_interest_15 : decode cL_interest 15 = .ok (.ireturn, 1) := by decide +kernel
theorem dL_isBack_0 : decode cL_isBack 0 = .ok (.aload_n 3, 1) := by decide +kernel
theorem dL_isBack_1 : decode cL_isBack 1 = .ok (.iconst 0, 1) := by decide +kernel
theorem dL_isBack_2 : decode cL_isBack 2 = .ok (.aload_n 0, 1) := by decide +kernel
theorem dL_isBack_3 : decode cL_isBack 3 = .ok (.iload_n 1, 1) := by decide +kernel
theorem dL_isBack_4 : decode cL_isBack 4 = .ok (.iload_n 2, 1) := by decide +kernel
theorem dL_isBack_5 : decode cL_isBack 5 = .ok (.invokevirtual 131, 3) := by decide +kernel
theorem dL_isBack_20 : decode cL_isBack 20 = .ok (.astore 4, 2) := by decide +kernel
theorem dL_isBack_22 : decode cL_isBack 22 = .ok (.iconst 1, 1) := by decide +kernel
theorem dL_isBack_23 : decode cL_isBack 23 = .ok (.ireturn, 1) := by decide +kernel
theorem dL_isOff_0 : decode cL_isOff 0 = .ok (.aload_n 2, 1) := by decide +kernel
theorem dL_isOff_1 : decode cL_isOff 1 = .ok (.iconst 0, 1) := by decide +kernel
theorem dL_isOff_2 : decode cL_isOff 2 = .ok (.aload_n 0, 1) := by decide +kernel
theorem dL_isOff_3 : decode cL_isOff 3 = .ok (.iload_n 1, 1) := by decide +kernel
theorem dL_isOff_4 : decode cL_isOff 4 = .ok (.invokevirtual 118, 3) := by decide +kernel
theorem dL_isOff_19 : decode cL_isOff 19 = .ok (.astore_n 3, 1) := by decide +kernel
theorem dL_isOff_20 : decode cL_isOff 20 = .ok (.iconst 1, 1) := by decide +kernel
theorem dL_isOff_21 : decode cL_isOff 21 = .ok (.ireturn, 1) := by decide +kernel
theorem dL_kindOf_0 : decode cL_kindOf 0 = .ok (.aload_n 3, 1) := by decide +kernel
theorem dL_kindOf_1 : decode cL_kindOf 1 = .ok (.iconst 0, 1) := by decide +kernel
theorem dL_kindOf_2 : decode cL_kindOf 2 = .ok (.aload_n 0, 1) := by decide +kernel
theorem dL_kindOf_3 : decode cL_kindOf 3 = .ok (.iload_n 1, 1) := by decide +kernel
theorem dL_kindOf_4 : decode cL_kindOf 4 = .ok (.iload_n 2, 1) := by decide +kernel
theorem dL_kindOf_5 : decode cL_kindOf 5 = .ok (.invokevirtual 128, 3) := by decide +kernel
theorem dL_kindOf_13 : decode cL_kindOf 13 = .ok (.astore 4, 2) := by decide +kernel
theorem dL_kindOf_15 : decode cL_kindOf 15 = .ok (.iconst 1, 1) := by decide +kernel
theorem dL_kindOf_16 : decode cL_kindOf 16 = .ok (.ireturn, 1) := by decide +kernel
theorem dL_least_0 : decode cL_least 0 = .ok (.aload_n 3, 1) := by decide +kernel
theorem dL_least_1 : decode cL_least 1 = .ok (.iconst 0, 1) := by decide +kernel
theorem dL_least_2 : decode cL_least 2 = .ok (.aload_n 0, 1) := by decide +kernel
theorem dL_least_3 : decode cL_least 3 = .ok (.iload_n 1, 1) := by decide +kernel
theorem dL_least_4 : decode cL_least 4 = .ok (.iload_n 2, 1) := by decide +kernel
theorem dL_least_5 : decode cL_least 5 = .ok (.invokevirtual 98, 3) := by decide +kernel
theorem dL_least_12 : decode cL_least 12 = .ok (.astore 4, 2) := by decide +kernel
theorem dL_least_14 : decode cL_least 14 = .ok (.iconst 1, 1) := by decide +kernel
theorem dL_least_15 : decode cL_least 15 = .ok (.ireturn, 1) := by decide +kernel
theorem dL_meanOwed_0 : decode cL_meanOwed 0 = .ok (.aload_n 1, 1) := by decide +kernel
theorem dL_meanOwed_1 : decode cL_meanOwed 1 = .ok (.iconst 0, 1) := by decide +kernel
theorem dL_meanOwed_2 : decode cL_meanOwed 2 = .ok (.aload_n 0, 1) := by decide +kernel
theorem dL_meanOwed_3 : decode cL_meanOwed 3 = .ok (.invokevirtual 150, 3) := by decide +kernel
theorem dL_meanOwed_10 : decode cL_meanOwed 10 = .ok (.astore_n 2, 1) := by decide +kernel
theorem dL_meanOwed_11 : decode cL_meanOwed 11 = .ok (.iconst 1, 1) := by decide +kernel
theorem dL_meanOwed_12 : decode cL_meanOwed 12 = .ok (.ireturn, 1) := by decide +kernel
theorem dL_missed_0 : decode cL_missed 0 = .ok (.aload_n 2, 1) := by decide +kernel
theorem dL_missed_1 : decode cL_missed 1 = .ok (.iconst 0, 1) := by decide +kernel
theorem dL_missed_2 : decode cL_missed 2 = .ok (.aload_n 0, 1) := by decide +kernel
theorem dL_missed_3 : decode cL_missed 3 = .ok (.iload_n 1, 1) := by decide +kernel
theorem dL_missed_4 : decode cL_missed 4 = .ok (.invokevirtual 115, 3) := by decide +kernel
theorem dL_missed_12 : decode cL_missed 12 = .ok (.astore_n 3, 1) := by decide +kernel
theorem dL_missed_13 : decode cL_missed 13 = .ok (.iconst 1, 1) := by decide +kernel
theorem dL_missed_14 : decode cL_missed 14 = .ok (.ireturn, 1) := by decide +kernel
theorem dL_missedShare_0 : decode cL_missedShare 0 = .ok (.aload_n 1, 1) := by decide +kernel
theorem dL_missedShare_1 : decode cL_missedShare 1 = .ok (.iconst 0, 1) := by decide +kernel
theorem dL_missedShare_2 : decode cL_missedShare 2 = .ok (.aload_n 0, 1) := by decide +kernel
theorem dL_missedShare_3 : decode cL_missedShare 3 = .ok (.invokevirtual 144, 3) := by decide +kernel
theorem dL_missedShare_11 : decode cL_missedShare 11 = .ok (.astore_n 2, 1) := by decide +kernel
theorem dL_missedShare_12 : decode cL_missedShare 12 = .ok (.iconst 1, 1) := by decide +kernel
theorem dL_missedShare_13 : decode cL_missedShare 13 = .ok (.ireturn, 1) := by decide +kernel
theorem dL_missing_0 : decode cL_missing 0 = .ok (.aload_n 2, 1) := by decide +kernel
theorem dL_missing_1 : decode cL_missing 1 = .ok (.iconst 0, 1) := by decide +kernel
theorem dL_missing_2 : decode cL_missing 2 = .ok (.aload_n 0, 1) := by decide +kernel
theorem dL_missing_3 : decode cL_missing 3 = .ok (.iload_n 1, 1) := by decide +kernel
theorem dL_missing_4 : decode cL_missing 4 = .ok (.invokevirtual 112, 3) := by decide +kernel
theorem dL_missing_11 : decode cL_missing 11 = .ok (.astore_n 3, 1) := by decide +kernel
theorem dL_missing_12 : decode cL_missing 12 = .ok (.iconst 1, 1) := by decide +kernel
theorem dL_missing_13 : decode cL_missing 13 = .ok (.ireturn, 1) := by decide +kernel
theorem dL_open_0 : decode cL_open 0 = .ok (.aload_n 2, 1) := by decide +kernel
theorem dL_open_1 : decode cL_open 1 = .ok (.iconst 0, 1) := by decide +kernel
theorem dL_open_2 : decode cL_open 2 = .ok (.aload_n 0, 1) := by decide +kernel
theorem dL_open_3 : decode cL_open 3 = .ok (.iload_n 1, 1) := by decide +kernel
theorem dL_open_4 : decode cL_open 4 = .ok (.invokevirtual 7, 3) := by decide +kernel
theorem dL_open_7 : decode cL_open 7 = .ok (.i2l, 1) := by decide +kernel
theorem dL_open_8 : decode cL_open 8 = .ok (.lastore, 1) := by decide +kernel
theorem dL_open_9 : decode cL_open 9 = .ok (.goto 9, 3) := by decide +kernel
theorem dL_open_12 : decode cL_open 12 = .ok (.astore_n 3, 1) := by decide +kernel
theorem dL_open_13 : decode cL_open 13 = .ok (.iconst 1, 1) := by decide +kernel
theorem dL_open_14 : decode cL_open 14 = .ok (.ireturn, 1) := by decide +kernel
theorem dL_open_18 : decode cL_open 18 = .ok (.iconst 0, 1) := by decide +kernel
theorem dL_open_19 : decode cL_open 19 = .ok (.ireturn, 1) := by decide +kernel
theorem dL_owed_0 : decode cL_owed 0 = .ok (.aload_n 2, 1) := by decide +kernel
theorem dL_owed_1 : decode cL_owed 1 = .ok (.iconst 0, 1) := by decide +kernel
theorem dL_owed_2 : decode cL_owed 2 = .ok (.aload_n 0, 1) := by decide +kernel
theorem dL_owed_3 : decode cL_owed 3 = .ok (.iload_n 1, 1) := by decide +kernel
theorem dL_owed_4 : decode cL_owed 4 = .ok (.invokevirtual 76, 3) := by decide +kernel
theorem dL_owed_11 : decode cL_owed 11 = .ok (.astore_n 3, 1) := by decide +kernel
theorem dL_owed_12 : decode cL_owed 12 = .ok (.iconst 1, 1) := by decide +kernel
theorem dL_owed_13 : decode cL_owed 13 = .ok (.ireturn, 1) := by decide +kernel
theorem dL_paid_0 : decode cL_paid 0 = .ok (.aload_n 3, 1) := by decide +kernel
theorem dL_paid_1 : decode cL_paid 1 = .ok (.iconst 0, 1) := by decide +kernel
theorem dL_paid_2 : decode cL_paid 2 = .ok (.aload_n 0, 1) := by decide +kernel
theorem dL_paid_3 : decode cL_paid 3 = .ok (.iload_n 1, 1) := by decide +kernel
theorem dL_paid_4 : decode cL_paid 4 = .ok (.iload_n 2, 1) := by decide +kernel
theorem dL_paid_5 : decode cL_paid 5 = .ok (.invokevirtual 108, 3) := by decide +kernel
theorem dL_paid_13 : decode cL_paid 13 = .ok (.astore 4, 2) := by decide +kernel
theorem dL_paid_15 : decode cL_paid 15 = .ok (.iconst 1, 1) := by decide +kernel
theorem dL_paid_16 : decode cL_paid 16 = .ok (.ireturn, 1) := by decide +kernel
theorem dL_pass_0 : decode cL_pass 0 = .ok (.aload_n 2, 1) := by decide +kernel
theorem dL_pass_1 : decode cL_pass 1 = .ok (.iconst 0, 1) := by decide +kernel
theorem dL_pass_2 : decode cL_pass 2 = .ok (.aload_n 0, 1) := by decide +kernel
theorem dL_pass_3 : decode cL_pass 3 = .ok (.iload_n 1, 1) := by decide +kernel
theorem dL_pass_4 : decode cL_pass 4 = .ok (.invokevirtual 73, 3) := by decide +kernel
theorem dL_pass_7 : decode cL_pass 7 = .ok (.i2l, 1) := by decide +kernel
theorem dL_pass_8 : decode cL_pass 8 = .ok (.lastore, 1) := by decide +kernel
theorem dL_pass_9 : decode cL_pass 9 = .ok (.goto 9, 3) := by decide +kernel
theorem dL_pass_12 : decode cL_pass 12 = .ok (.astore_n 3, 1) := by decide +kernel
theorem dL_pass_13 : decode cL_pass 13 = .ok (.iconst 1, 1) := by decide +kernel
theorem dL_pass_14 : decode cL_pass 14 = .ok (.ireturn, 1) := by decide +kernel
theorem dL_pass_18 : decode cL_pass 18 = .ok (.iconst 0, 1) := by decide +kernel
theorem dL_pass_19 : decode cL_pass 19 = .ok (.ireturn, 1) := by decide +kernel
theorem dL_pay_0 : decode cL_pay 0 = .ok (.aload_n 3, 1) := by decide +kernel
theorem dL_pay_1 : decode cL_pay 1 = .ok (.iconst 0, 1) := by decide +kernel
theorem dL_pay_2 : decode cL_pay 2 = .ok (.aload_n 0, 1) := by decide +kernel
theorem dL_pay_3 : decode cL_pay 3 = .ok (.iload_n 1, 1) := by decide +kernel
theorem dL_pay_4 : decode cL_pay 4 = .ok (.iload_n 2, 1) := by decide +kernel
theorem dL_pay_5 : decode cL_pay 5 = .ok (.invokevirtual 50, 3) := by decide +kernel
theorem dL_pay_13 : decode cL_pay 13 = .ok (.astore 4, 2) := by decide +kernel
theorem dL_pay_15 : decode cL_pay 15 = .ok (.iconst 1, 1) := by decide +kernel
theorem dL_pay_16 : decode cL_pay 16 = .ok (.ireturn, 1) := by decide +kernel
theorem dL_plan_0 : decode cL_plan 0 = .ok (.aload_n 2, 1) := by decide +kernel
theorem dL_plan_1 : decode cL_plan 1 = .ok (.iconst 0, 1) := by decide +kernel
theorem dL_plan_2 : decode cL_plan 2 = .ok (.aload_n 0, 1) := by decide +kernel
theorem dL_plan_3 : decode cL_plan 3 = .ok (.iload_n 1, 1) := by decide +kernel
theorem dL_plan_4 : decode cL_plan 4 = .ok (.invokevirtual 67, 3) := by decide +kernel
theorem dL_plan_12 : decode cL_plan 12 = .ok (.astore_n 3, 1) := by decide +kernel
theorem dL_plan_13 : decode cL_plan 13 = .ok (.iconst 1, 1) := by decide +kernel
theorem dL_plan_14 : decode cL_plan 14 = .ok (.ireturn, 1) := by decide +kernel
theorem dL_points_0 : decode cL_points 0 = .ok (.aload_n 2, 1) := by decide +kernel
theorem dL_points_1 : decode cL_points 1 = .ok (.iconst 0, 1) := by decide +kernel
theorem dL_points_2 : decode cL_points 2 = .ok (.aload_n 0, 1) := by decide +kernel
theorem dL_points_3 : decode cL_points 3 = .ok (.iload_n 1, 1) := by decide +kernel
theorem dL_points_4 : decode cL_points 4 = .ok (.invokevirtual 122, 3) := by decide +kernel
theorem dL_points_11 : decode cL_points 11 = .ok (.astore_n 3, 1) := by decide +kernel
theorem dL_points_12 : decode cL_points 12 = .ok (.iconst 1, 1) := by decide +kernel
theorem dL_points_13 : decode cL_points 13 = .ok (.ireturn, 1) := by decide +kernel
theorem dL_promote_0 : decode cL_promote 0 = .ok (.aload 4, 2) := by decide +kernel
theorem dL_promote_2 : decode cL_promote 2 = .ok (.iconst 0, 1) := by decide +kernel
theorem dL_promote_3 : decode cL_promote 3 = .ok (.aload_n 0, 1) := by decide +kernel
theorem dL_promote_4 : decode cL_promote 4 = .ok (.iload_n 1, 1) := by decide +kernel
theorem dL_promote_5 : decode cL_promote 5 = .ok (.iload_n 2, 1) := by decide +kernel
theorem dL_promote_6 : decode cL_promote 6 = .ok (.iload_n 3, 1) := by decide +kernel
theorem dL_promote_7 : decode cL_promote 7 = .ok (.invokevirtual 31, 3) := by decide +kernel
theorem dL_promote_15 : decode cL_promote 15 = .ok (.astore 5, 2) := by decide +kernel
theorem dL_promote_17 : decode cL_promote 17 = .ok (.iconst 1, 1) := by decide +kernel
theorem dL_promote_18 : decode cL_promote 18 = .ok (.ireturn, 1) := by decide +kernel
theorem dL_reasons_0 : decode cL_reasons 0 = .ok (.aload 4, 2) := by decide +kernel
theorem dL_reasons_2 : decode cL_reasons 2 = .ok (.iconst 0, 1) := by decide +kernel
theorem dL_reasons_3 : decode cL_reasons 3 = .ok (.aload_n 0, 1) := by decide +kernel
theorem dL_reasons_4 : decode cL_reasons 4 = .ok (.iload_n 1, 1) := by decide +kernel
theorem dL_reasons_5 : decode cL_reasons 5 = .ok (.iload_n 2, 1) := by decide +kernel
theorem dL_reasons_6 : decode cL_reasons 6 = .ok (.iload_n 3, 1) := by decide +kernel
theorem dL_reasons_7 : decode cL_reasons 7 = .ok (.invokevirtual 141, 3) := by decide +kernel
theorem dL_reasons_15 : decode cL_reasons 15 = .ok (.astore 5, 2) := by decide +kernel
theorem dL_reasons_17 : decode cL_reasons 17 = .ok (.iconst 1, 1) := by decide +kernel
theorem dL_reasons_18 : decode cL_reasons 18 = .ok (.ireturn, 1) := by decide +kernel
theorem dL_redeem_0 : decode cL_redeem 0 = .ok (.aload_n 3, 1) := by decide +kernel
theorem dL_redeem_1 : decode cL_redeem 1 = .ok (.iconst 0, 1) := by decide +kernel
theorem dL_redeem_2 : decode cL_redeem 2 = .ok (.aload_n 0, 1) := by decide +kernel
theorem dL_redeem_3 : decode cL_redeem 3 = .ok (.iload_n 1, 1) := by decide +kernel
theorem dL_redeem_4 : decode cL_redeem 4 = .ok (.iload_n 2, 1) := by decide +kernel
theorem dL_redeem_5 : decode cL_redeem 5 = .ok (.invokevirtual 70, 3) := by decide +kernel
theorem dL_redeem_13 : decode cL_redeem 13 = .ok (.astore 4, 2) := by decide +kernel
theorem dL_redeem_15 : decode cL_redeem 15 = .ok (.iconst 1, 1) := by decide +kernel
theorem dL_redeem_16 : decode cL_redeem 16 = .ok (.ireturn, 1) := by decide +kernel
theorem dL_returns_0 : decode cL_returns 0 = .ok (.aload_n 3, 1) := by decide +kernel
theorem dL_returns_1 : decode cL_returns 1 = .ok (.iconst 0, 1) := by decide +kernel
theorem dL_returns_2 : decode cL_returns 2 = .ok (.aload_n 0, 1) := by decide +kernel
theorem dL_returns_3 : decode cL_returns 3 = .ok (.iload_n 1, 1) := by decide +kernel
theorem dL_returns_4 : decode cL_returns 4 = .ok (.iload_n 2, 1) := by decide +kernel
theorem dL_returns_5 : decode cL_returns 5 = .ok (.invokevirtual 53, 3) := by decide +kernel
theorem dL_returns_13 : decode cL_returns 13 = .ok (.astore 4, 2) := by decide +kernel
theorem dL_returns_15 : decode cL_returns 15 = .ok (.iconst 1, 1) := by decide +kernel
theorem dL_returns_16 : decode cL_returns 16 = .ok (.ireturn, 1) := by decide +kernel
theorem dL_reverse_0 : decode cL_reverse 0 = .ok (.aload_n 3, 1) := by decide +kernel
theorem dL_reverse_1 : decode cL_reverse 1 = .ok (.iconst 0, 1) := by decide +kernel
theorem dL_reverse_2 : decode cL_reverse 2 = .ok (.aload_n 0, 1) := by decide +kernel
theorem dL_reverse_3 : decode cL_reverse 3 = .ok (.iload_n 1, 1) := by decide +kernel
theorem dL_reverse_4 : decode cL_reverse 4 = .ok (.iload_n 2, 1) := by decide +kernel
theorem dL_reverse_5 : decode cL_reverse 5 = .ok (.invokevirtual 63, 3) := by decide +kernel
theorem dL_reverse_12 : decode cL_reverse 12 = .ok (.astore 4, 2) := by decide +kernel
theorem dL_reverse_14 : decode cL_reverse 14 = .ok (.iconst 1, 1) := by decide +kernel
theorem dL_reverse_15 : decode cL_reverse 15 = .ok (.ireturn, 1) := by decide +kernel
theorem dL_setCurrency_0 : decode cL_setCurrency 0 = .ok (.aload_n 3, 1) := by decide +kernel
theorem dL_setCurrency_1 : decode cL_setCurrency 1 = .ok (.iconst 0, 1) := by decide +kernel
theorem dL_setCurrency_2 : decode cL_setCurrency 2 = .ok (.aload_n 0, 1) := by decide +kernel
theorem dL_setCurrency_3 : decode cL_setCurrency 3 = .ok (.iload_n 1, 1) := by decide +kernel
theorem dL_setCurrency_4 : decode cL_setCurrency 4 = .ok (.iload_n 2, 1) := by decide +kernel
theorem dL_setCurrency_5 : decode cL_setCurrency 5 = .ok (.invokevirtual 35, 3) := by decide +kernel
theorem dL_setCurrency_8 : decode cL_setCurrency 8 = .ok (.i2l, 1) := by decide +kernel
theorem dL_setCurrency_9 : decode cL_setCurrency 9 = .ok (.lastore, 1) := by decide +kernel
theorem dL_setCurrency_10 : decode cL_setCurrency 10 = .ok (.goto 7, 3) := by decide +kernel
theorem dL_setCurrency_13 : decode cL_setCurrency 13 = .ok (.astore 4, 2) := by decide +kernel
theorem dL_setCurrency_15 : decode cL_setCurrency 15 = .ok (.iconst 1, 1) := by decide +kernel
theorem dL_setCurrency_16 : decode cL_setCurrency 16 = .ok (.ireturn, 1) := by decide +kernel
theorem dL_setCurrency_17 : decode cL_setCurrency 17 = .ok (.iconst 0, 1) := by decide +kernel
theorem dL_setCurrency_18 : decode cL_setCurrency 18 = .ok (.ireturn, 1) := by decide +kernel
theorem dL_setLimit_0 : decode cL_setLimit 0 = .ok (.aload_n 3, 1) := by decide +kernel
theorem dL_setLimit_1 : decode cL_setLimit 1 = .ok (.iconst 0, 1) := by decide +kernel
theorem dL_setLimit_2 : decode cL_setLimit 2 = .ok (.aload_n 0, 1) := by decide +kernel
theorem dL_setLimit_3 : decode cL_setLimit 3 = .ok (.iload_n 1, 1) := by decide +kernel
theorem dL_setLimit_4 : decode cL_setLimit 4 = .ok (.iload_n 2, 1) := by decide +kernel
theorem dL_setLimit_5 : decode cL_setLimit 5 = .ok (.invokevirtual 17, 3) := by decide +kernel
theorem dL_setLimit_13 : decode cL_setLimit 13 = .ok (.astore 4, 2) := by decide +kernel
theorem dL_setLimit_15 : decode cL_setLimit 15 = .ok (.iconst 1, 1) := by decide +kernel
theorem dL_setLimit_16 : decode cL_setLimit 16 = .ok (.ireturn, 1) := by decide +kernel
theorem dL_setRate_0 : decode cL_setRate 0 = .ok (.aload 4, 2) := by decide +kernel
theorem dL_setRate_2 : decode cL_setRate 2 = .ok (.iconst 0, 1) := by decide +kernel
theorem dL_setRate_3 : decode cL_setRate 3 = .ok (.aload_n 0, 1) := by decide +kernel
theorem dL_setRate_4 : decode cL_setRate 4 = .ok (.iload_n 1, 1) := by decide +kernel
theorem dL_setRate_5 : decode cL_setRate 5 = .ok (.iload_n 2, 1) := by decide +kernel
theorem dL_setRate_6 : decode cL_setRate 6 = .ok (.iload_n 3, 1) := by decide +kernel
theorem dL_setRate_7 : decode cL_setRate 7 = .ok (.invokevirtual 27, 3) := by decide +kernel
theorem dL_setRate_15 : decode cL_setRate 15 = .ok (.astore 5, 2) := by decide +kernel
theorem dL_setRate_17 : decode cL_setRate 17 = .ok (.iconst 1, 1) := by decide +kernel
theorem dL_setRate_18 : decode cL_setRate 18 = .ok (.ireturn, 1) := by decide +kernel
theorem dL_settle_0 : decode cL_settle 0 = .ok (.aload 4, 2) := by decide +kernel
theorem dL_settle_2 : decode cL_settle 2 = .ok (.iconst 0, 1) := by decide +kernel
theorem dL_settle_3 : decode cL_settle 3 = .ok (.aload_n 0, 1) := by decide +kernel
theorem dL_settle_4 : decode cL_settle 4 = .ok (.iload_n 1, 1) := by decide +kernel
theorem dL_settle_5 : decode cL_settle 5 = .ok (.iload_n 2, 1) := by decide +kernel
theorem dL_settle_6 : decode cL_settle 6 = .ok (.iload_n 3, 1) := by decide +kernel
theorem dL_settle_7 : decode cL_settle 7 = .ok (.invokevirtual 59, 3) := by decide +kernel
theorem dL_settle_14 : decode cL_settle 14 = .ok (.astore 5, 2) := by decide +kernel
theorem dL_settle_16 : decode cL_settle 16 = .ok (.iconst 1, 1) := by decide +kernel
theorem dL_settle_17 : decode cL_settle 17 = .ok (.ireturn, 1) := by decide +kernel
theorem dL_statement_0 : decode cL_statement 0 = .ok (.aload_n 3, 1) := by decide +kernel
theorem dL_statement_1 : decode cL_statement 1 = .ok (.iconst 0, 1) := by decide +kernel
theorem dL_statement_2 : decode cL_statement 2 = .ok (.aload_n 0, 1) := by decide +kernel
theorem dL_statement_3 : decode cL_statement 3 = .ok (.iload_n 1, 1) := by decide +kernel
theorem dL_statement_4 : decode cL_statement 4 = .ok (.iload_n 2, 1) := by decide +kernel
theorem dL_statement_5 : decode cL_statement 5 = .ok (.invokevirtual 87, 3) := by decide +kernel
theorem dL_statement_12 : decode cL_statement 12 = .ok (.astore 4, 2) := by decide +kernel
theorem dL_statement_14 : decode cL_statement 14 = .ok (.iconst 1, 1) := by decide +kernel
theorem dL_statement_15 : decode cL_statement 15 = .ok (.ireturn, 1) := by decide +kernel
theorem dL_sum_0 : decode cL_sum 0 = .ok (.aload_n 3, 1) := by decide +kernel
theorem dL_sum_1 : decode cL_sum 1 = .ok (.iconst 0, 1) := by decide +kernel
theorem dL_sum_2 : decode cL_sum 2 = .ok (.aload_n 0, 1) := by decide +kernel
theorem dL_sum_3 : decode cL_sum 3 = .ok (.iload_n 1, 1) := by decide +kernel
theorem dL_sum_4 : decode cL_sum 4 = .ok (.iload_n 2, 1) := by decide +kernel
theorem dL_sum_5 : decode cL_sum 5 = .ok (.invokevirtual 134, 3) := by decide +kernel
theorem dL_sum_13 : decode cL_sum 13 = .ok (.astore 4, 2) := by decide +kernel
theorem dL_sum_15 : decode cL_sum 15 = .ok (.iconst 1, 1) := by decide +kernel
theorem dL_sum_16 : decode cL_sum 16 = .ok (.ireturn, 1) := by decide +kernel
theorem dL_told_0 : decode cL_told 0 = .ok (.aload_n 3, 1) := by decide +kernel
theorem dL_told_1 : decode cL_told 1 = .ok (.iconst 0, 1) := by decide +kernel
theorem dL_told_2 : decode cL_told 2 = .ok (.aload_n 0, 1) := by decide +kernel
theorem dL_told_3 : decode cL_told 3 = .ok (.iload_n 1, 1) := by decide +kernel
theorem dL_told_4 : decode cL_told 4 = .ok (.iload_n 2, 1) := by decide +kernel
theorem dL_told_5 : decode cL_told 5 = .ok (.invokevirtual 92, 3) := by decide +kernel
theorem dL_told_12 : decode cL_told 12 = .ok (.astore 4, 2) := by decide +kernel
theorem dL_told_14 : decode cL_told 14 = .ok (.iconst 1, 1) := by decide +kernel
theorem dL_told_15 : decode cL_told 15 = .ok (.ireturn, 1) := by decide +kernel
theorem dL_why_0 : decode cL_why 0 = .ok (.aload 4, 2) := by decide +kernel
theorem dL_why_2 : decode cL_why 2 = .ok (.iconst 0, 1) := by decide +kernel
theorem dL_why_3 : decode cL_why 3 = .ok (.aload_n 0, 1) := by decide +kernel
theorem dL_why_4 : decode cL_why 4 = .ok (.iload_n 1, 1) := by decide +kernel
theorem dL_why_5 : decode cL_why 5 = .ok (.iload_n 2, 1) := by decide +kernel
theorem dL_why_6 : decode cL_why 6 = .ok (.iload_n 3, 1) := by decide +kernel
theorem dL_why_7 : decode cL_why 7 = .ok (.invokevirtual 137, 3) := by decide +kernel
theorem dL_why_15 : decode cL_why 15 = .ok (.astore 5, 2) := by decide +kernel
theorem dL_why_17 : decode cL_why 17 = .ok (.iconst 1, 1) := by decide +kernel
theorem dL_why_18 : decode cL_why 18 = .ok (.ireturn, 1) := by decide +kernel
theorem dX0_init_0 : decode cX0_init 0 = .ok (.aload_n 0, 1) := by decide +kernel
theorem dX0_init_1 : decode cX0_init 1 = .ok (.invokespecial 3, 3) := by decide +kernel
theorem dX0_init_4 : decode cX0_init 4 = .ok (.aload_n 0, 1) := by decide +kernel
theorem dX0_init_5 : decode cX0_init 5 = .ok (.iload_n 1, 1) := by decide +kernel
theorem dX0_init_6 : decode cX0_init 6 = .ok (.putfield 9, 3) := by decide +kernel
theorem dX0_init_9 : decode cX0_init 9 = .ok (.aload_n 0, 1) := by decide +kernel
theorem dX0_init_10 : decode cX0_init 10 = .ok (.iload_n 2, 1) := by decide +kernel
theorem dX0_init_11 : decode cX0_init 11 = .ok (.putfield 15, 3) := by decide +kernel
theorem dX0_init_14 : decode cX0_init 14 = .ok (.aload_n 0, 1) := by decide +kernel
theorem dX0_init_15 : decode cX0_init 15 = .ok (.new 18, 3) := by decide +kernel
theorem dX0_init_18 : decode cX0_init 18 = .ok (.dup, 1) := by decide +kernel
theorem dX0_init_19 : decode cX0_init 19 = .ok (.invokespecial 20, 3) := by decide +kernel
theorem dX0_init_22 : decode cX0_init 22 = .ok (.putfield 21, 3) := by decide +kernel
theorem dX0_init_25 : decode cX0_init 25 = .ok (.aload_n 0, 1) := by decide +kernel
theorem dX0_init_26 : decode cX0_init 26 = .ok (.new 18, 3) := by decide +kernel
theorem dX0_init_29 : decode cX0_init 29 = .ok (.dup, 1) := by decide +kernel
theorem dX0_init_30 : decode cX0_init 30 = .ok (.invokespecial 20, 3) := by decide +kernel
theorem dX0_init_33 : decode cX0_init 33 = .ok (.putfield 25, 3) := by decide +kernel
theorem dX0_init_36 : decode cX0_init 36 = .ok (.aload_n 0, 1) := by decide +kernel
theorem dX0_init_37 : decode cX0_init 37 = .ok (.new 18, 3) := by decide +kernel
theorem dX0_init_40 : decode cX0_init 40 = .ok (.dup, 1) := by decide +kernel
theorem dX0_init_41 : decode cX0_init 41 = .ok (.invokespecial 20, 3) := by decide +kernel
theorem dX0_init_44 : decode cX0_init 44 = .ok (.putfield 28, 3) := by decide +kernel
theorem dX0_init_47 : decode cX0_init 47 = .ok (.aload_n 0, 1) := by decide +kernel
theorem dX0_init_48 : decode cX0_init 48 = .ok (.bipush 12, 2) := by decide +kernel
theorem dX0_init_50 : decode cX0_init 50 = .ok (.newarray .long, 2) := by decide +kernel
theorem dX0_init_52 : decode cX0_init 52 = .ok (.putfield 31, 3) := by decide +kernel
theorem dX0_init_55 : decode cX0_init 55 = .ok (.aload_n 0, 1) := by decide +kernel
theorem dX0_init_56 : decode cX0_init 56 = .ok (.new 35, 3) := by decide +kernel
theorem dX0_init_59 : decode cX0_init 59 = .ok (.dup, 1) := by decide +kernel
theorem dX0_init_60 : decode cX0_init 60 = .ok (.invokespecial 37, 3) := by decide +kernel
theorem dX0_init_63 : decode cX0_init 63 = .ok (.putfield 38, 3) := by decide +kernel
theorem dX0_init_66 : decode cX0_init 66 = .ok (.aload_n 0, 1) := by decide +kernel
theorem dX0_init_67 : decode cX0_init 67 = .ok (.iconst 1, 1) := by decide +kernel
theorem dX0_init_68 : decode cX0_init 68 = .ok (.putfield 42, 3) := by decide +kernel
theorem dX0_init_71 : decode cX0_init 71 = .ok (.return_, 1) := by decide +kernel
theorem dX1_init_0 : decode cX1_init 0 = .ok (.aload_n 0, 1) := by decide +kernel
theorem dX1_init_1 : decode cX1_init 1 = .ok (.invokespecial 3, 3) := by decide +kernel
theorem dX1_init_4 : decode cX1_init 4 = .ok (.aload_n 0, 1) := by decide +kernel
theorem dX1_init_5 : decode cX1_init 5 = .ok (.iconst 3, 1) := by decide +kernel
theorem dX1_init_6 : decode cX1_init 6 = .ok (.newarray .long, 2) := by decide +kernel
theorem dX1_init_8 : decode cX1_init 8 = .ok (.putfield 9, 3) := by decide +kernel
theorem dX1_init_11 : decode cX1_init 11 = .ok (.aload_n 0, 1) := by decide +kernel
theorem dX1_init_12 : decode cX1_init 12 = .ok (.iconst 3, 1) := by decide +kernel
theorem dX1_init_13 : decode cX1_init 13 = .ok (.newarray .long, 2) := by decide +kernel
theorem dX1_init_15 : decode cX1_init 15 = .ok (.putfield 15, 3) := by decide +kernel
theorem dX1_init_18 : decode cX1_init 18 = .ok (.aload_n 0, 1) := by decide +kernel
theorem dX1_init_19 : decode cX1_init 19 = .ok (.iconst 3, 1) := by decide +kernel
theorem dX1_init_20 : decode cX1_init 20 = .ok (.newarray .int, 2) := by decide +kernel
theorem dX1_init_22 : decode cX1_init 22 = .ok (.putfield 18, 3) := by decide +kernel
theorem dX1_init_25 : decode cX1_init 25 = .ok (.aload_n 0, 1) := by decide +kernel
theorem dX1_init_26 : decode cX1_init 26 = .ok (.iconst 3, 1) := by decide +kernel
theorem dX1_init_27 : decode cX1_init 27 = .ok (.newarray .int, 2) := by decide +kernel
theorem dX1_init_29 : decode cX1_init 29 = .ok (.putfield 22, 3) := by decide +kernel
theorem dX1_init_32 : decode cX1_init 32 = .ok (.aload_n 0, 1) := by decide +kernel
theorem dX1_init_33 : decode cX1_init 33 = .ok (.bipush 12, 2) := by decide +kernel
theorem dX1_init_35 : decode cX1_init 35 = .ok (.anewarray 25, 3) := by decide +kernel
theorem dX1_init_38 : decode cX1_init 38 = .ok (.putfield 27, 3) := by decide +kernel
theorem dX1_init_41 : decode cX1_init 41 = .ok (.iconst 0, 1) := by decide +kernel
theorem dX1_init_42 : decode cX1_init 42 = .ok (.istore_n 1, 1) := by decide +kernel
theorem dX1_init_43 : decode cX1_init 43 = .ok (.iload_n 1, 1) := by decide +kernel
theorem dX1_init_44 : decode cX1_init 44 = .ok (.bipush 12, 2) := by decide +kernel
theorem dX1_init_46 : decode cX1_init 46 = .ok (.if_icmp .ge 22, 3) := by decide +kernel
theorem dX1_init_49 : decode cX1_init 49 = .ok (.aload_n 0, 1) := by decide +kernel
theorem dX1_init_50 : decode cX1_init 50 = .ok (.getfield 27, 3) := by decide +kernel
theorem dX1_init_53 : decode cX1_init 53 = .ok (.iload_n 1, 1) := by decide +kernel
theorem dX1_init_54 : decode cX1_init 54 = .ok (.new 25, 3) := by decide +kernel
theorem dX1_init_57 : decode cX1_init 57 = .ok (.dup, 1) := by decide +kernel
theorem dX1_init_58 : decode cX1_init 58 = .ok (.invokespecial 31, 3) := by decide +kernel
theorem dX1_init_61 : decode cX1_init 61 = .ok (.aastore, 1) := by decide +kernel
theorem dX1_init_62 : decode cX1_init 62 = .ok (.iinc 1 1, 3) := by decide +kernel
theorem dX1_init_65 : decode cX1_init 65 = .ok (.goto (-22), 3) := by decide +kernel
theorem dX1_init_68 : decode cX1_init 68 = .ok (.return_, 1) := by decide +kernel
theorem dX3_init_0 : decode cX3_init 0 = .ok (.aload_n 0, 1) := by decide +kernel
theorem dX3_init_1 : decode cX3_init 1 = .ok (.invokespecial 1, 3) := by decide +kernel
theorem dX3_init_4 : decode cX3_init 4 = .ok (.return_, 1) := by decide +kernel
theorem dX4_abroad_0 : decode cX4_abroad 0 = .ok (.aload_n 0, 1) := by decide +kernel
theorem dX4_abroad_1 : decode cX4_abroad 1 = .ok (.iload_n 1, 1) := by decide +kernel
theorem dX4_abroad_2 : decode cX4_abroad 2 = .ok (.invokevirtual 52, 3) := by decide +kernel
theorem dX4_accountAt_0 : decode cX4_accountAt 0 = .ok (.iload_n 1, 1) := by decide +kernel
theorem dX4_accountAt_1 : decode cX4_accountAt 1 = .ok (.ifCond .lt 14, 3) := by decide +kernel
theorem dX4_accountAt_4 : decode cX4_accountAt 4 = .ok (.iload_n 1, 1) := by decide +kernel
theorem dX4_accountAt_5 : decode cX4_accountAt 5 = .ok (.aload_n 0, 1) := by decide +kernel
theorem dX4_accountAt_6 : decode cX4_accountAt 6 = .ok (.getfield 10, 3) := by decide +kernel
theorem dX4_accountAt_9 : decode cX4_accountAt 9 = .ok (.invokevirtual 32, 3) := by decide +kernel
theorem dX4_accountAt_12 : decode cX4_accountAt 12 = .ok (.if_icmp .lt 11, 3) := by decide +kernel
theorem dX4_accountAt_15 : decode cX4_accountAt 15 = .ok (.new 234, 3) := by decide +kernel
theorem dX4_accountAt_18 : decode cX4_accountAt 18 = .ok (.dup, 1) := by decide +kernel
theorem dX4_accountAt_19 : decode cX4_accountAt 19 = .ok (.invokespecial 236, 3) := by decide +kernel
theorem dX4_accountAt_22 : decode cX4_accountAt 22 = .ok (.athrow, 1) := by decide +kernel
theorem dX4_block_0 : decode cX4_block 0 = .ok (.aload_n 0, 1) := by decide +kernel
theorem dX4_block_1 : decode cX4_block 1 = .ok (.iload_n 1, 1) := by decide +kernel
theorem dX4_block_2 : decode cX4_block 2 = .ok (.invokevirtual 52, 3) := by decide +kernel
theorem dX4_bucket_0 : decode cX4_bucket 0 = .ok (.aload_n 0, 1) := by decide +kernel
theorem dX4_bucket_1 : decode cX4_bucket 1 = .ok (.iload_n 1, 1) := by decide +kernel
theorem dX4_bucket_2 : decode cX4_bucket 2 = .ok (.invokevirtual 52, 3) := by decide +kernel
theorem dX4_buy_0 : decode cX4_buy 0 = .ok (.aload_n 0, 1) := by decide +kernel
theorem dX4_buy_1 : decode cX4_buy 1 = .ok (.iload_n 1, 1) := by decide +kernel
theorem dX4_buy_2 : decode cX4_buy 2 = .ok (.invokevirtual 52, 3) := by decide +kernel
theorem dX4_buyOn_0 : decode cX4_buyOn 0 = .ok (.aload_n 0, 1) := by decide +kernel
theorem dX4_buyOn_1 : decode cX4_buyOn 1 = .ok (.iload_n 1, 1) := by decide +kernel
theorem dX4_buyOn_2 : decode cX4_buyOn 2 = .ok (.invokevirtual 52, 3) := by decide +kernel
theorem dX4_checkRange_0 : decode cX4_checkRange 0 = .ok (.iload_n 0, 1) := by decide +kernel
theorem dX4_checkRange_1 : decode cX4_checkRange 1 = .ok (.iload_n 1, 1) := by decide +kernel
theorem dX4_checkRange_2 : decode cX4_checkRange 2 = .ok (.if_icmp .lt 8, 3) := by decide +kernel
theorem dX4_checkRange_5 : decode cX4_checkRange 5 = .ok (.iload_n 0, 1) := by decide +kernel
theorem dX4_checkRange_6 : decode cX4_checkRange 6 = .ok (.iload_n 2, 1) := by decide +kernel
theorem dX4_checkRange_7 : decode cX4_checkRange 7 = .ok (.if_icmp .le 11, 3) := by decide +kernel
theorem dX4_checkRange_10 : decode cX4_checkRange 10 = .ok (.new 255, 3) := by decide +kernel
theorem dX4_checkRange_13 : decode cX4_checkRange 13 = .ok (.dup, 1) := by decide +kernel
theorem dX4_checkRange_14 : decode cX4_checkRange 14 = .ok (.invokespecial 257, 3) := by decide +kernel
theorem dX4_checkRange_17 : decode cX4_checkRange 17 = .ok (.athrow, 1) := by decide +kernel
theorem dX4_checkRange_18 : decode cX4_checkRange 18 = .ok (.return_, 1) := by decide +kernel
theorem dX4_checksum_0 : decode cX4_checksum 0 = .ok (.ldc2_w 212, 3) := by decide +kernel
theorem dX4_checksum_3 : decode cX4_checksum 3 = .ok (.lstore_n 1, 1) := by decide +kernel
theorem dX4_checksum_4 : decode cX4_checksum 4 = .ok (.iconst 0, 1) := by decide +kernel
theorem dX4_checksum_5 : decode cX4_checksum 5 = .ok (.istore_n 3, 1) := by decide +kernel
theorem dX4_checksum_6 : decode cX4_checksum 6 = .ok (.iload_n 3, 1) := by decide +kernel
theorem dX4_checksum_7 : decode cX4_checksum 7 = .ok (.aload_n 0, 1) := by decide +kernel
theorem dX4_checksum_8 : decode cX4_checksum 8 = .ok (.getfield 10, 3) := by decide +kernel
theorem dX4_checksum_11 : decode cX4_checksum 11 = .ok (.invokevirtual 32, 3) := by decide +kernel
theorem dX4_checksum_14 : decode cX4_checksum 14 = .ok (.if_icmp .ge 97, 3) := by decide +kernel
theorem dX4_checksum_111 : decode cX4_checksum 111 = .ok (.ldc2_w 214, 3) := by decide +kernel
theorem dX4_checksum_114 : decode cX4_checksum 114 = .ok (.lload_n 1, 1) := by decide +kernel
theorem dX4_checksum_115 : decode cX4_checksum 115 = .ok (.lmul, 1) := by decide +kernel
theorem dX4_checksum_116 : decode cX4_checksum 116 = .ok (.aload_n 0, 1) := by decide +kernel
theorem dX4_checksum_117 : decode cX4_checksum 117 = .ok (.getfield 41, 3) := by decide +kernel
theorem dX4_checksum_120 : decode cX4_checksum 120 = .ok (.i2l, 1) := by decide +kernel
theorem dX4_checksum_121 : decode cX4_checksum 121 = .ok (.ladd, 1) := by decide +kernel
theorem dX4_checksum_122 : decode cX4_checksum 122 = .ok (.lreturn, 1) := by decide +kernel
theorem dX4_collected_0 : decode cX4_collected 0 = .ok (.lconst 0, 1) := by decide +kernel
theorem dX4_collected_1 : decode cX4_collected 1 = .ok (.lstore_n 1, 1) := by decide +kernel
theorem dX4_collected_2 : decode cX4_collected 2 = .ok (.iconst 0, 1) := by decide +kernel
theorem dX4_collected_3 : decode cX4_collected 3 = .ok (.istore_n 3, 1) := by decide +kernel
theorem dX4_collected_4 : decode cX4_collected 4 = .ok (.iload_n 3, 1) := by decide +kernel
theorem dX4_collected_5 : decode cX4_collected 5 = .ok (.aload_n 0, 1) := by decide +kernel
theorem dX4_collected_6 : decode cX4_collected 6 = .ok (.getfield 10, 3) := by decide +kernel
theorem dX4_collected_9 : decode cX4_collected 9 = .ok (.invokevirtual 32, 3) := by decide +kernel
theorem dX4_collected_12 : decode cX4_collected 12 = .ok (.if_icmp .ge 28, 3) := by decide +kernel
theorem dX4_collected_40 : decode cX4_collected 40 = .ok (.lload_n 1, 1) := by decide +kernel
theorem dX4_collected_41 : decode cX4_collected 41 = .ok (.lreturn, 1) := by decide +kernel
theorem dX4_credit_0 : decode cX4_credit 0 = .ok (.aload_n 0, 1) := by decide +kernel
theorem dX4_credit_1 : decode cX4_credit 1 = .ok (.aload_n 0, 1) := by decide +kernel
theorem dX4_credit_2 : decode cX4_credit 2 = .ok (.iload_n 1, 1) := by decide +kernel
theorem dX4_credit_3 : decode cX4_credit 3 = .ok (.invokevirtual 52, 3) := by decide +kernel
theorem dX4_difference_0 : decode cX4_difference 0 = .ok (.aload_n 0, 1) := by decide +kernel
theorem dX4_difference_1 : decode cX4_difference 1 = .ok (.iload_n 1, 1) := by decide +kernel
theorem dX4_difference_2 : decode cX4_difference 2 = .ok (.invokevirtual 52, 3) := by decide +kernel
theorem dX4_dispute_0 : decode cX4_dispute 0 = .ok (.aload_n 0, 1) := by decide +kernel
theorem dX4_dispute_1 : decode cX4_dispute 1 = .ok (.iload_n 1, 1) := by decide +kernel
theorem dX4_dispute_2 : decode cX4_dispute 2 = .ok (.invokevirtual 52, 3) := by decide +kernel
theorem dX4_events_0 : decode cX4_events 0 = .ok (.aload_n 0, 1) := by decide +kernel
theorem dX4_events_1 : decode cX4_events 1 = .ok (.iload_n 1, 1) := by decide +kernel
theorem dX4_events_2 : decode cX4_events 2 = .ok (.invokevirtual 52, 3) := by decide +kernel
theorem dX4_hadGrace_0 : decode cX4_hadGrace 0 = .ok (.aload_n 0, 1) := by decide +kernel
theorem dX4_hadGrace_1 : decode cX4_hadGrace 1 = .ok (.aload_n 0, 1) := by decide +kernel
theorem dX4_hadGrace_2 : decode cX4_hadGrace 2 = .ok (.iload_n 1, 1) := by decide +kernel
theorem dX4_hadGrace_3 : decode cX4_hadGrace 3 = .ok (.invokevirtual 52, 3) := by decide +kernel
theorem dX4_init_0 : decode cX4_init 0 = .ok (.aload_n 0, 1) := by decide +kernel
theorem dX4_init_1 : decode cX4_init 1 = .ok (.invokespecial 1, 3) := by decide +kernel
theorem dX4_init_4 : decode cX4_init 4 = .ok (.aload_n 0, 1) := by decide +kernel
theorem dX4_init_5 : decode cX4_init 5 = .ok (.new 7, 3) := by decide +kernel
theorem dX4_init_8 : decode cX4_init 8 = .ok (.dup, 1) := by decide +kernel
theorem dX4_init_9 : decode cX4_init 9 = .ok (.invokespecial 9, 3) := by decide +kernel
theorem dX4_init_12 : decode cX4_init 12 = .ok (.putfield 10, 3) := by decide +kernel
theorem dX4_init_15 : decode cX4_init 15 = .ok (.aload_n 0, 1) := by decide +kernel
theorem dX4_init_16 : decode cX4_init 16 = .ok (.iconst 4, 1) := by decide +kernel
theorem dX4_init_17 : decode cX4_init 17 = .ok (.newarray .int, 2) := by decide +kernel
theorem dX4_init_19 : decode cX4_init 19 = .ok (.dup, 1) := by decide +kernel
theorem dX4_init_20 : decode cX4_init 20 = .ok (.iconst 0, 1) := by decide +kernel
theorem dX4_init_21 : decode cX4_init 21 = .ok (.sipush 1000, 3) := by decide +kernel
theorem dX4_init_24 : decode cX4_init 24 = .ok (.iastore, 1) := by decide +kernel
theorem dX4_init_25 : decode cX4_init 25 = .ok (.dup, 1) := by decide +kernel
theorem dX4_init_26 : decode cX4_init 26 = .ok (.iconst 1, 1) := by decide +kernel
theorem dX4_init_27 : decode cX4_init 27 = .ok (.sipush 1000, 3) := by decide +kernel
theorem dX4_init_30 : decode cX4_init 30 = .ok (.iastore, 1) := by decide +kernel
theorem dX4_init_31 : decode cX4_init 31 = .ok (.dup, 1) := by decide +kernel
theorem dX4_init_32 : decode cX4_init 32 = .ok (.iconst 2, 1) := by decide +kernel
theorem dX4_init_33 : decode cX4_init 33 = .ok (.sipush 1000, 3) := by decide +kernel
theorem dX4_init_36 : decode cX4_init 36 = .ok (.iastore, 1) := by decide +kernel
theorem dX4_init_37 : decode cX4_init 37 = .ok (.dup, 1) := by decide +kernel
theorem dX4_init_38 : decode cX4_init 38 = .ok (.iconst 3, 1) := by decide +kernel
theorem dX4_init_39 : decode cX4_init 39 = .ok (.sipush 1000, 3) := by decide +kernel
theorem dX4_init_42 : decode cX4_init 42 = .ok (.iastore, 1) := by decide +kernel
theorem dX4_init_43 : decode cX4_init 43 = .ok (.putfield 16, 3) := by decide +kernel
theorem dX4_init_46 : decode cX4_init 46 = .ok (.aload_n 0, 1) := by decide +kernel
theorem dX4_init_47 : decode cX4_init 47 = .ok (.new 20, 3) := by decide +kernel
theorem dX4_init_50 : decode cX4_init 50 = .ok (.dup, 1) := by decide +kernel
theorem dX4_init_51 : decode cX4_init 51 = .ok (.invokespecial 22, 3) := by decide +kernel
theorem dX4_init_54 : decode cX4_init 54 = .ok (.putfield 23, 3) := by decide +kernel
theorem dX4_init_57 : decode cX4_init 57 = .ok (.return_, 1) := by decide +kernel
theorem dX4_interest_0 : decode cX4_interest 0 = .ok (.aload_n 0, 1) := by decide +kernel
theorem dX4_interest_1 : decode cX4_interest 1 = .ok (.aload_n 0, 1) := by decide +kernel
theorem dX4_interest_2 : decode cX4_interest 2 = .ok (.iload_n 1, 1) := by decide +kernel
theorem dX4_interest_3 : decode cX4_interest 3 = .ok (.invokevirtual 52, 3) := by decide +kernel
theorem dX4_isBack_0 : decode cX4_isBack 0 = .ok (.aload_n 0, 1) := by decide +kernel
theorem dX4_isBack_1 : decode cX4_isBack 1 = .ok (.iload_n 1, 1) := by decide +kernel
theorem dX4_isBack_2 : decode cX4_isBack 2 = .ok (.invokevirtual 52, 3) := by decide +kernel
theorem dX4_isOff_0 : decode cX4_isOff 0 = .ok (.aload_n 0, 1) := by decide +kernel
theorem dX4_isOff_1 : decode cX4_isOff 1 = .ok (.aload_n 0, 1) := by decide +kernel
theorem dX4_isOff_2 : decode cX4_isOff 2 = .ok (.iload_n 1, 1) := by decide +kernel
theorem dX4_isOff_3 : decode cX4_isOff 3 = .ok (.invokevirtual 52, 3) := by decide +kernel
theorem dX4_isSound_0 : decode cX4_isSound 0 = .ok (.iconst 0, 1) := by decide +kernel
theorem dX4_isSound_1 : decode cX4_isSound 1 = .ok (.istore_n 1, 1) := by decide +kernel
theorem dX4_isSound_2 : decode cX4_isSound 2 = .ok (.iload_n 1, 1) := by decide +kernel
theorem dX4_isSound_3 : decode cX4_isSound 3 = .ok (.aload_n 0, 1) := by decide +kernel
theorem dX4_isSound_4 : decode cX4_isSound 4 = .ok (.getfield 10, 3) := by decide +kernel
theorem dX4_isSound_7 : decode cX4_isSound 7 = .ok (.invokevirtual 32, 3) := by decide +kernel
theorem dX4_isSound_10 : decode cX4_isSound 10 = .ok (.if_icmp .ge 60, 3) := by decide +kernel
theorem dX4_isSound_70 : decode cX4_isSound 70 = .ok (.iconst 1, 1) := by decide +kernel
theorem dX4_isSound_71 : decode cX4_isSound 71 = .ok (.ireturn, 1) := by decide +kernel
theorem dX4_kindOf_0 : decode cX4_kindOf 0 = .ok (.aload_n 0, 1) := by decide +kernel
theorem dX4_kindOf_1 : decode cX4_kindOf 1 = .ok (.iload_n 1, 1) := by decide +kernel
theorem dX4_kindOf_2 : decode cX4_kindOf 2 = .ok (.invokevirtual 52, 3) := by decide +kernel
theorem dX4_least_0 : decode cX4_least 0 = .ok (.aload_n 0, 1) := by decide +kernel
theorem dX4_least_1 : decode cX4_least 1 = .ok (.aload_n 0, 1) := by decide +kernel
theorem dX4_least_2 : decode cX4_least 2 = .ok (.iload_n 1, 1) := by decide +kernel
theorem dX4_least_3 : decode cX4_least 3 = .ok (.invokevirtual 52, 3) := by decide +kernel
theorem dX4_meanOwed_0 : decode cX4_meanOwed 0 = .ok (.aload_n 0, 1) := by decide +kernel
theorem dX4_meanOwed_1 : decode cX4_meanOwed 1 = .ok (.getfield 10, 3) := by decide +kernel
theorem dX4_meanOwed_4 : decode cX4_meanOwed 4 = .ok (.invokevirtual 32, 3) := by decide +kernel
theorem dX4_meanOwed_7 : decode cX4_meanOwed 7 = .ok (.istore_n 1, 1) := by decide +kernel
theorem dX4_meanOwed_8 : decode cX4_meanOwed 8 = .ok (.iload_n 1, 1) := by decide +kernel
theorem dX4_meanOwed_9 : decode cX4_meanOwed 9 = .ok (.ifCond .ne 11, 3) := by decide +kernel
theorem dX4_meanOwed_12 : decode cX4_meanOwed 12 = .ok (.new 219, 3) := by decide +kernel
theorem dX4_meanOwed_15 : decode cX4_meanOwed 15 = .ok (.dup, 1) := by decide +kernel
theorem dX4_meanOwed_16 : decode cX4_meanOwed 16 = .ok (.invokespecial 221, 3) := by decide +kernel
theorem dX4_meanOwed_19 : decode cX4_meanOwed 19 = .ok (.athrow, 1) := by decide +kernel
theorem dX4_missed_0 : decode cX4_missed 0 = .ok (.aload_n 0, 1) := by decide +kernel
theorem dX4_missed_1 : decode cX4_missed 1 = .ok (.aload_n 0, 1) := by decide +kernel
theorem dX4_missed_2 : decode cX4_missed 2 = .ok (.iload_n 1, 1) := by decide +kernel
theorem dX4_missed_3 : decode cX4_missed 3 = .ok (.invokevirtual 52, 3) := by decide +kernel
theorem dX4_missedShare_0 : decode cX4_missedShare 0 = .ok (.iconst 0, 1) := by decide +kernel
theorem dX4_missedShare_1 : decode cX4_missedShare 1 = .ok (.istore_n 1, 1) := by decide +kernel
theorem dX4_missedShare_2 : decode cX4_missedShare 2 = .ok (.iconst 0, 1) := by decide +kernel
theorem dX4_missedShare_3 : decode cX4_missedShare 3 = .ok (.istore_n 2, 1) := by decide +kernel
theorem dX4_missedShare_4 : decode cX4_missedShare 4 = .ok (.iconst 0, 1) := by decide +kernel
theorem dX4_missedShare_5 : decode cX4_missedShare 5 = .ok (.istore_n 3, 1) := by decide +kernel
theorem dX4_missedShare_6 : decode cX4_missedShare 6 = .ok (.iload_n 3, 1) := by decide +kernel
theorem dX4_missedShare_7 : decode cX4_missedShare 7 = .ok (.aload_n 0, 1) := by decide +kernel
theorem dX4_missedShare_8 : decode cX4_missedShare 8 = .ok (.getfield 10, 3) := by decide +kernel
theorem dX4_missedShare_11 : decode cX4_missedShare 11 = .ok (.invokevirtual 32, 3) := by decide +kernel
theorem dX4_missedShare_14 : decode cX4_missedShare 14 = .ok (.if_icmp .ge 42, 3) := by decide +kernel
theorem dX4_missedShare_56 : decode cX4_missedShare 56 = .ok (.iload_n 2, 1) := by decide +kernel
theorem dX4_missedShare_57 : decode cX4_missedShare 57 = .ok (.ifCond .ne 11, 3) := by decide +kernel
theorem dX4_missedShare_60 : decode cX4_missedShare 60 = .ok (.new 219, 3) := by decide +kernel
theorem dX4_missedShare_63 : decode cX4_missedShare 63 = .ok (.dup, 1) := by decide +kernel
theorem dX4_missedShare_64 : decode cX4_missedShare 64 = .ok (.invokespecial 221, 3) := by decide +kernel
theorem dX4_missedShare_67 : decode cX4_missedShare 67 = .ok (.athrow, 1) := by decide +kernel
theorem dX4_missing_0 : decode cX4_missing 0 = .ok (.aload_n 0, 1) := by decide +kernel
theorem dX4_missing_1 : decode cX4_missing 1 = .ok (.aload_n 0, 1) := by decide +kernel
theorem dX4_missing_2 : decode cX4_missing 2 = .ok (.iload_n 1, 1) := by decide +kernel
theorem dX4_missing_3 : decode cX4_missing 3 = .ok (.invokevirtual 52, 3) := by decide +kernel
theorem dX4_open_0 : decode cX4_open 0 = .ok (.iload_n 1, 1) := by decide +kernel
theorem dX4_open_1 : decode cX4_open 1 = .ok (.iconst 0, 1) := by decide +kernel
theorem dX4_open_2 : decode cX4_open 2 = .ok (.ldc 27, 2) := by decide +kernel
theorem dX4_open_4 : decode cX4_open 4 = .ok (.invokestatic 28, 3) := by decide +kernel
theorem dX4_open_7 : decode cX4_open 7 = .ok (.aload_n 0, 1) := by decide +kernel
theorem dX4_open_8 : decode cX4_open 8 = .ok (.getfield 10, 3) := by decide +kernel
theorem dX4_open_11 : decode cX4_open 11 = .ok (.invokevirtual 32, 3) := by decide +kernel
theorem dX4_open_14 : decode cX4_open 14 = .ok (.iconst 4, 1) := by decide +kernel
theorem dX4_open_15 : decode cX4_open 15 = .ok (.if_icmp .lt 11, 3) := by decide +kernel
theorem dX4_open_26 : decode cX4_open 26 = .ok (.aload_n 0, 1) := by decide +kernel
theorem dX4_open_27 : decode cX4_open 27 = .ok (.getfield 10, 3) := by decide +kernel
theorem dX4_open_30 : decode cX4_open 30 = .ok (.new 39, 3) := by decide +kernel
theorem dX4_open_33 : decode cX4_open 33 = .ok (.dup, 1) := by decide +kernel
theorem dX4_open_34 : decode cX4_open 34 = .ok (.iload_n 1, 1) := by decide +kernel
theorem dX4_open_35 : decode cX4_open 35 = .ok (.aload_n 0, 1) := by decide +kernel
theorem dX4_open_36 : decode cX4_open 36 = .ok (.getfield 41, 3) := by decide +kernel
theorem dX4_open_39 : decode cX4_open 39 = .ok (.bipush 30, 2) := by decide +kernel
theorem dX4_open_41 : decode cX4_open 41 = .ok (.idiv, 1) := by decide +kernel
theorem dX4_open_42 : decode cX4_open 42 = .ok (.invokespecial 45, 3) := by decide +kernel
theorem dX4_open_45 : decode cX4_open 45 = .ok (.invokevirtual 48, 3) := by decide +kernel
theorem dX4_open_48 : decode cX4_open 48 = .ok (.pop, 1) := by decide +kernel
theorem dX4_open_49 : decode cX4_open 49 = .ok (.aload_n 0, 1) := by decide +kernel
theorem dX4_open_50 : decode cX4_open 50 = .ok (.getfield 10, 3) := by decide +kernel
theorem dX4_open_53 : decode cX4_open 53 = .ok (.invokevirtual 32, 3) := by decide +kernel
theorem dX4_open_56 : decode cX4_open 56 = .ok (.iconst 1, 1) := by decide +kernel
theorem dX4_open_57 : decode cX4_open 57 = .ok (.isub, 1) := by decide +kernel
theorem dX4_open_58 : decode cX4_open 58 = .ok (.ireturn, 1) := by decide +kernel
theorem dX4_owed_0 : decode cX4_owed 0 = .ok (.aload_n 0, 1) := by decide +kernel
theorem dX4_owed_1 : decode cX4_owed 1 = .ok (.aload_n 0, 1) := by decide +kernel
theorem dX4_owed_2 : decode cX4_owed 2 = .ok (.iload_n 1, 1) := by decide +kernel
theorem dX4_owed_3 : decode cX4_owed 3 = .ok (.invokevirtual 52, 3) := by decide +kernel
theorem dX4_paid_0 : decode cX4_paid 0 = .ok (.aload_n 0, 1) := by decide +kernel
theorem dX4_paid_1 : decode cX4_paid 1 = .ok (.aload_n 0, 1) := by decide +kernel
theorem dX4_paid_2 : decode cX4_paid 2 = .ok (.iload_n 1, 1) := by decide +kernel
theorem dX4_paid_3 : decode cX4_paid 3 = .ok (.invokevirtual 52, 3) := by decide +kernel
theorem dX4_pass_0 : decode cX4_pass 0 = .ok (.iload_n 1, 1) := by decide +kernel
theorem dX4_pass_1 : decode cX4_pass 1 = .ok (.iconst 1, 1) := by decide +kernel
theorem dX4_pass_2 : decode cX4_pass 2 = .ok (.bipush 30, 2) := by decide +kernel
theorem dX4_pass_4 : decode cX4_pass 4 = .ok (.invokestatic 28, 3) := by decide +kernel
theorem dX4_pass_7 : decode cX4_pass 7 = .ok (.aload_n 0, 1) := by decide +kernel
theorem dX4_pass_8 : decode cX4_pass 8 = .ok (.getfield 41, 3) := by decide +kernel
theorem dX4_pass_11 : decode cX4_pass 11 = .ok (.iload_n 1, 1) := by decide +kernel
theorem dX4_pass_12 : decode cX4_pass 12 = .ok (.iadd, 1) := by decide +kernel
theorem dX4_pass_13 : decode cX4_pass 13 = .ok (.sipush 360, 3) := by decide +kernel
theorem dX4_pass_16 : decode cX4_pass 16 = .ok (.if_icmp .le 11, 3) := by decide +kernel
theorem dX4_pass_27 : decode cX4_pass 27 = .ok (.aload_n 0, 1) := by decide +kernel
theorem dX4_pass_28 : decode cX4_pass 28 = .ok (.getfield 41, 3) := by decide +kernel
theorem dX4_pass_31 : decode cX4_pass 31 = .ok (.bipush 30, 2) := by decide +kernel
theorem dX4_pass_33 : decode cX4_pass 33 = .ok (.idiv, 1) := by decide +kernel
theorem dX4_pass_34 : decode cX4_pass 34 = .ok (.istore_n 2, 1) := by decide +kernel
theorem dX4_pass_35 : decode cX4_pass 35 = .ok (.aload_n 0, 1) := by decide +kernel
theorem dX4_pass_36 : decode cX4_pass 36 = .ok (.dup, 1) := by decide +kernel
theorem dX4_pass_37 : decode cX4_pass 37 = .ok (.getfield 41, 3) := by decide +kernel
theorem dX4_pass_40 : decode cX4_pass 40 = .ok (.iload_n 1, 1) := by decide +kernel
theorem dX4_pass_41 : decode cX4_pass 41 = .ok (.iadd, 1) := by decide +kernel
theorem dX4_pass_42 : decode cX4_pass 42 = .ok (.putfield 41, 3) := by decide +kernel
theorem dX4_pass_45 : decode cX4_pass 45 = .ok (.aload_n 0, 1) := by decide +kernel
theorem dX4_pass_46 : decode cX4_pass 46 = .ok (.getfield 41, 3) := by decide +kernel
theorem dX4_pass_49 : decode cX4_pass 49 = .ok (.bipush 30, 2) := by decide +kernel
theorem dX4_pass_51 : decode cX4_pass 51 = .ok (.idiv, 1) := by decide +kernel
theorem dX4_pass_52 : decode cX4_pass 52 = .ok (.iload_n 2, 1) := by decide +kernel
theorem dX4_pass_53 : decode cX4_pass 53 = .ok (.if_icmp .le 13, 3) := by decide +kernel
theorem dX4_pass_56 : decode cX4_pass 56 = .ok (.iload_n 2, 1) := by decide +kernel
theorem dX4_pass_57 : decode cX4_pass 57 = .ok (.bipush 12, 2) := by decide +kernel
theorem dX4_pass_59 : decode cX4_pass 59 = .ok (.if_icmp .ge 7, 3) := by decide +kernel
theorem dX4_pass_62 : decode cX4_pass 62 = .ok (.iconst 1, 1) := by decide +kernel
theorem dX4_pass_63 : decode cX4_pass 63 = .ok (.goto 4, 3) := by decide +kernel
theorem dX4_pass_66 : decode cX4_pass 66 = .ok (.iconst 0, 1) := by decide +kernel
theorem dX4_pass_67 : decode cX4_pass 67 = .ok (.istore_n 3, 1) := by decide +kernel
theorem dX4_pass_68 : decode cX4_pass 68 = .ok (.iconst 0, 1) := by decide +kernel
theorem dX4_pass_69 : decode cX4_pass 69 = .ok (.istore 4, 2) := by decide +kernel
theorem dX4_pass_71 : decode cX4_pass 71 = .ok (.iload 4, 2) := by decide +kernel
theorem dX4_pass_73 : decode cX4_pass 73 = .ok (.aload_n 0, 1) := by decide +kernel
theorem dX4_pass_74 : decode cX4_pass 74 = .ok (.getfield 10, 3) := by decide +kernel
theorem dX4_pass_77 : decode cX4_pass 77 = .ok (.invokevirtual 32, 3) := by decide +kernel
theorem dX4_pass_80 : decode cX4_pass 80 = .ok (.if_icmp .ge 54, 3) := by decide +kernel
theorem dX4_pass_134 : decode cX4_pass 134 = .ok (.aload_n 0, 1) := by decide +kernel
theorem dX4_pass_135 : decode cX4_pass 135 = .ok (.getfield 41, 3) := by decide +kernel
theorem dX4_pass_138 : decode cX4_pass 138 = .ok (.ireturn, 1) := by decide +kernel
theorem dX4_pay_0 : decode cX4_pay 0 = .ok (.aload_n 0, 1) := by decide +kernel
theorem dX4_pay_1 : decode cX4_pay 1 = .ok (.iload_n 1, 1) := by decide +kernel
theorem dX4_pay_2 : decode cX4_pay 2 = .ok (.invokevirtual 52, 3) := by decide +kernel
theorem dX4_plan_0 : decode cX4_plan 0 = .ok (.aload_n 0, 1) := by decide +kernel
theorem dX4_plan_1 : decode cX4_plan 1 = .ok (.iload_n 1, 1) := by decide +kernel
theorem dX4_plan_2 : decode cX4_plan 2 = .ok (.invokevirtual 52, 3) := by decide +kernel
theorem dX4_points_0 : decode cX4_points 0 = .ok (.aload_n 0, 1) := by decide +kernel
theorem dX4_points_1 : decode cX4_points 1 = .ok (.iload_n 1, 1) := by decide +kernel
theorem dX4_points_2 : decode cX4_points 2 = .ok (.invokevirtual 52, 3) := by decide +kernel
theorem dX4_promote_0 : decode cX4_promote 0 = .ok (.aload_n 0, 1) := by decide +kernel
theorem dX4_promote_1 : decode cX4_promote 1 = .ok (.iload_n 1, 1) := by decide +kernel
theorem dX4_promote_2 : decode cX4_promote 2 = .ok (.invokevirtual 52, 3) := by decide +kernel
theorem dX4_reasons_0 : decode cX4_reasons 0 = .ok (.aload_n 0, 1) := by decide +kernel
theorem dX4_reasons_1 : decode cX4_reasons 1 = .ok (.iload_n 1, 1) := by decide +kernel
theorem dX4_reasons_2 : decode cX4_reasons 2 = .ok (.invokevirtual 52, 3) := by decide +kernel
theorem dX4_redeem_0 : decode cX4_redeem 0 = .ok (.aload_n 0, 1) := by decide +kernel
theorem dX4_redeem_1 : decode cX4_redeem 1 = .ok (.iload_n 1, 1) := by decide +kernel
theorem dX4_redeem_2 : decode cX4_redeem 2 = .ok (.invokevirtual 52, 3) := by decide +kernel
theorem dX4_returns_0 : decode cX4_returns 0 = .ok (.aload_n 0, 1) := by decide +kernel
theorem dX4_returns_1 : decode cX4_returns 1 = .ok (.iload_n 1, 1) := by decide +kernel
theorem dX4_returns_2 : decode cX4_returns 2 = .ok (.invokevirtual 52, 3) := by decide +kernel
theorem dX4_reverse_0 : decode cX4_reverse 0 = .ok (.aload_n 0, 1) := by decide +kernel
theorem dX4_reverse_1 : decode cX4_reverse 1 = .ok (.iload_n 1, 1) := by decide +kernel
theorem dX4_reverse_2 : decode cX4_reverse 2 = .ok (.invokevirtual 52, 3) := by decide +kernel
theorem dX4_setCurrency_0 : decode cX4_setCurrency 0 = .ok (.iload_n 1, 1) := by decide +kernel
theorem dX4_setCurrency_1 : decode cX4_setCurrency 1 = .ok (.iconst 0, 1) := by decide +kernel
theorem dX4_setCurrency_2 : decode cX4_setCurrency 2 = .ok (.iconst 3, 1) := by decide +kernel
theorem dX4_setCurrency_3 : decode cX4_setCurrency 3 = .ok (.invokestatic 28, 3) := by decide +kernel
theorem dX4_setCurrency_6 : decode cX4_setCurrency 6 = .ok (.iload_n 2, 1) := by decide +kernel
theorem dX4_setCurrency_7 : decode cX4_setCurrency 7 = .ok (.iconst 1, 1) := by decide +kernel
theorem dX4_setCurrency_8 : decode cX4_setCurrency 8 = .ok (.ldc 86, 2) := by decide +kernel
theorem dX4_setCurrency_10 : decode cX4_setCurrency 10 = .ok (.invokestatic 28, 3) := by decide +kernel
theorem dX4_setCurrency_13 : decode cX4_setCurrency 13 = .ok (.aload_n 0, 1) := by decide +kernel
theorem dX4_setCurrency_14 : decode cX4_setCurrency 14 = .ok (.getfield 16, 3) := by decide +kernel
theorem dX4_setCurrency_17 : decode cX4_setCurrency 17 = .ok (.iload_n 1, 1) := by decide +kernel
theorem dX4_setCurrency_18 : decode cX4_setCurrency 18 = .ok (.iaload, 1) := by decide +kernel
theorem dX4_setCurrency_19 : decode cX4_setCurrency 19 = .ok (.istore_n 3, 1) := by decide +kernel
theorem dX4_setCurrency_20 : decode cX4_setCurrency 20 = .ok (.aload_n 0, 1) := by decide +kernel
theorem dX4_setCurrency_21 : decode cX4_setCurrency 21 = .ok (.getfield 16, 3) := by decide +kernel
theorem dX4_setCurrency_24 : decode cX4_setCurrency 24 = .ok (.iload_n 1, 1) := by decide +kernel
theorem dX4_setCurrency_25 : decode cX4_setCurrency 25 = .ok (.iload_n 2, 1) := by decide +kernel
theorem dX4_setCurrency_26 : decode cX4_setCurrency 26 = .ok (.iastore, 1) := by decide +kernel
theorem dX4_setCurrency_27 : decode cX4_setCurrency 27 = .ok (.iload_n 3, 1) := by decide +kernel
theorem dX4_setCurrency_28 : decode cX4_setCurrency 28 = .ok (.ireturn, 1) := by decide +kernel
theorem dX4_setLimit_0 : decode cX4_setLimit 0 = .ok (.aload_n 0, 1) := by decide +kernel
theorem dX4_setLimit_1 : decode cX4_setLimit 1 = .ok (.iload_n 1, 1) := by decide +kernel
theorem dX4_setLimit_2 : decode cX4_setLimit 2 = .ok (.invokevirtual 52, 3) := by decide +kernel
theorem dX4_setRate_0 : decode cX4_setRate 0 = .ok (.aload_n 0, 1) := by decide +kernel
theorem dX4_setRate_1 : decode cX4_setRate 1 = .ok (.iload_n 1, 1) := by decide +kernel
theorem dX4_setRate_2 : decode cX4_setRate 2 = .ok (.invokevirtual 52, 3) := by decide +kernel
theorem dX4_settle_0 : decode cX4_settle 0 = .ok (.aload_n 0, 1) := by decide +kernel
theorem dX4_settle_1 : decode cX4_settle 1 = .ok (.iload_n 1, 1) := by decide +kernel
theorem dX4_settle_2 : decode cX4_settle 2 = .ok (.invokevirtual 52, 3) := by decide +kernel
theorem dX4_statement_0 : decode cX4_statement 0 = .ok (.aload_n 0, 1) := by decide +kernel
theorem dX4_statement_1 : decode cX4_statement 1 = .ok (.aload_n 0, 1) := by decide +kernel
theorem dX4_statement_2 : decode cX4_statement 2 = .ok (.iload_n 1, 1) := by decide +kernel
theorem dX4_statement_3 : decode cX4_statement 3 = .ok (.invokevirtual 52, 3) := by decide +kernel
theorem dX4_sum_0 : decode cX4_sum 0 = .ok (.aload_n 0, 1) := by decide +kernel
theorem dX4_sum_1 : decode cX4_sum 1 = .ok (.iload_n 1, 1) := by decide +kernel
theorem dX4_sum_2 : decode cX4_sum 2 = .ok (.invokevirtual 52, 3) := by decide +kernel
theorem dX4_today_0 : decode cX4_today 0 = .ok (.aload_n 0, 1) := by decide +kernel
theorem dX4_today_1 : decode cX4_today 1 = .ok (.getfield 41, 3) := by decide +kernel
theorem dX4_today_4 : decode cX4_today 4 = .ok (.ireturn, 1) := by decide +kernel
theorem dX4_told_0 : decode cX4_told 0 = .ok (.aload_n 0, 1) := by decide +kernel
theorem dX4_told_1 : decode cX4_told 1 = .ok (.aload_n 0, 1) := by decide +kernel
theorem dX4_told_2 : decode cX4_told 2 = .ok (.iload_n 1, 1) := by decide +kernel
theorem dX4_told_3 : decode cX4_told 3 = .ok (.invokevirtual 52, 3) := by decide +kernel
theorem dX4_why_0 : decode cX4_why 0 = .ok (.aload_n 0, 1) := by decide +kernel
theorem dX4_why_1 : decode cX4_why 1 = .ok (.iload_n 1, 1) := by decide +kernel
theorem dX4_why_2 : decode cX4_why 2 = .ok (.invokevirtual 52, 3) := by decide +kernel
theorem dX5_init_0 : decode cX5_init 0 = .ok (.aload_n 0, 1) := by decide +kernel
theorem dX5_init_1 : decode cX5_init 1 = .ok (.invokespecial 1, 3) := by decide +kernel
theorem dX5_init_4 : decode cX5_init 4 = .ok (.aload_n 0, 1) := by decide +kernel
theorem dX5_init_5 : decode cX5_init 5 = .ok (.new 7, 3) := by decide +kernel
theorem dX5_init_8 : decode cX5_init 8 = .ok (.dup, 1) := by decide +kernel
theorem dX5_init_9 : decode cX5_init 9 = .ok (.invokespecial 9, 3) := by decide +kernel
theorem dX5_init_12 : decode cX5_init 12 = .ok (.putfield 10, 3) := by decide +kernel
theorem dX5_init_15 : decode cX5_init 15 = .ok (.aload_n 0, 1) := by decide +kernel
theorem dX5_init_16 : decode cX5_init 16 = .ok (.bipush 13, 2) := by decide +kernel
theorem dX5_init_18 : decode cX5_init 18 = .ok (.anewarray 16, 3) := by decide +kernel
theorem dX5_init_21 : decode cX5_init 21 = .ok (.putfield 18, 3) := by decide +kernel
theorem dX5_init_24 : decode cX5_init 24 = .ok (.return_, 1) := by decide +kernel
theorem dX8_abroad_0 : decode cX8_abroad 0 = .ok (.aload_n 0, 1) := by decide +kernel
theorem dX8_abroad_1 : decode cX8_abroad 1 = .ok (.aload_n 0, 1) := by decide +kernel
theorem dX8_abroad_2 : decode cX8_abroad 2 = .ok (.iload_n 1, 1) := by decide +kernel
theorem dX8_abroad_3 : decode cX8_abroad 3 = .ok (.invokevirtual 34, 3) := by decide +kernel
theorem dX8_abroad_6 : decode cX8_abroad 6 = .ok (.iconst 1, 1) := by decide +kernel
theorem dX8_abroad_7 : decode cX8_abroad 7 = .ok (.invokevirtual 70, 3) := by decide +kernel
theorem dX8_abroad_10 : decode cX8_abroad 10 = .ok (.ifCond .ne 36, 3) := by decide +kernel
theorem dX8_abroad_46 : decode cX8_abroad 46 = .ok (.iconst 0, 1) := by decide +kernel
theorem dX8_abroad_47 : decode cX8_abroad 47 = .ok (.ireturn, 1) := by decide +kernel
theorem dX8_block_0 : decode cX8_block 0 = .ok (.aload_n 0, 1) := by decide +kernel
theorem dX8_block_1 : decode cX8_block 1 = .ok (.aload_n 0, 1) := by decide +kernel
theorem dX8_block_2 : decode cX8_block 2 = .ok (.iload_n 1, 1) := by decide +kernel
theorem dX8_block_3 : decode cX8_block 3 = .ok (.invokevirtual 34, 3) := by decide +kernel
theorem dX8_block_6 : decode cX8_block 6 = .ok (.iconst 1, 1) := by decide +kernel
theorem dX8_block_7 : decode cX8_block 7 = .ok (.invokevirtual 70, 3) := by decide +kernel
theorem dX8_block_10 : decode cX8_block 10 = .ok (.ifCond .eq 5, 3) := by decide +kernel
theorem dX8_block_13 : decode cX8_block 13 = .ok (.iconst 0, 1) := by decide +kernel
theorem dX8_block_14 : decode cX8_block 14 = .ok (.ireturn, 1) := by decide +kernel
theorem dX8_bucket_0 : decode cX8_bucket 0 = .ok (.aload_n 0, 1) := by decide +kernel
theorem dX8_bucket_1 : decode cX8_bucket 1 = .ok (.aload_n 0, 1) := by decide +kernel
theorem dX8_bucket_2 : decode cX8_bucket 2 = .ok (.iload_n 1, 1) := by decide +kernel
theorem dX8_bucket_3 : decode cX8_bucket 3 = .ok (.invokevirtual 34, 3) := by decide +kernel
theorem dX8_bucket_6 : decode cX8_bucket 6 = .ok (.iconst 1, 1) := by decide +kernel
theorem dX8_bucket_7 : decode cX8_bucket 7 = .ok (.invokevirtual 70, 3) := by decide +kernel
theorem dX8_bucket_10 : decode cX8_bucket 10 = .ok (.ifCond .ne 15, 3) := by decide +kernel
theorem dX8_bucket_25 : decode cX8_bucket 25 = .ok (.lconst 0, 1) := by decide +kernel
theorem dX8_bucket_26 : decode cX8_bucket 26 = .ok (.goto 18, 3) := by decide +kernel
theorem dX8_bucket_44 : decode cX8_bucket 44 = .ok (.lreturn, 1) := by decide +kernel
theorem dX8_buy_0 : decode cX8_buy 0 = .ok (.aload_n 0, 1) := by decide +kernel
theorem dX8_buy_1 : decode cX8_buy 1 = .ok (.aload_n 0, 1) := by decide +kernel
theorem dX8_buy_2 : decode cX8_buy 2 = .ok (.iload_n 1, 1) := by decide +kernel
theorem dX8_buy_3 : decode cX8_buy 3 = .ok (.invokevirtual 34, 3) := by decide +kernel
theorem dX8_buy_6 : decode cX8_buy 6 = .ok (.iconst 1, 1) := by decide +kernel
theorem dX8_buy_7 : decode cX8_buy 7 = .ok (.invokevirtual 70, 3) := by decide +kernel
theorem dX8_buy_10 : decode cX8_buy 10 = .ok (.ifCond .ne 73, 3) := by decide +kernel
theorem dX8_buy_83 : decode cX8_buy 83 = .ok (.iconst 0, 1) := by decide +kernel
theorem dX8_buy_84 : decode cX8_buy 84 = .ok (.ireturn, 1) := by decide +kernel
theorem dX8_buyOn_0 : decode cX8_buyOn 0 = .ok (.aload_n 0, 1) := by decide +kernel
theorem dX8_buyOn_1 : decode cX8_buyOn 1 = .ok (.aload_n 0, 1) := by decide +kernel
theorem dX8_buyOn_2 : decode cX8_buyOn 2 = .ok (.iload_n 1, 1) := by decide +kernel
theorem dX8_buyOn_3 : decode cX8_buyOn 3 = .ok (.invokevirtual 34, 3) := by decide +kernel
theorem dX8_buyOn_6 : decode cX8_buyOn 6 = .ok (.iconst 1, 1) := by decide +kernel
theorem dX8_buyOn_7 : decode cX8_buyOn 7 = .ok (.invokevirtual 70, 3) := by decide +kernel
theorem dX8_buyOn_10 : decode cX8_buyOn 10 = .ok (.ifCond .ne 59, 3) := by decide +kernel
theorem dX8_buyOn_69 : decode cX8_buyOn 69 = .ok (.iconst 0, 1) := by decide +kernel
theorem dX8_buyOn_70 : decode cX8_buyOn 70 = .ok (.ireturn, 1) := by decide +kernel
theorem dX8_checksum_0 : decode cX8_checksum 0 = .ok (.ldc2_w 238, 3) := by decide +kernel
theorem dX8_checksum_3 : decode cX8_checksum 3 = .ok (.lstore_n 1, 1) := by decide +kernel
theorem dX8_checksum_4 : decode cX8_checksum 4 = .ok (.iconst 0, 1) := by decide +kernel
theorem dX8_checksum_5 : decode cX8_checksum 5 = .ok (.istore_n 3, 1) := by decide +kernel
theorem dX8_checksum_6 : decode cX8_checksum 6 = .ok (.iload_n 3, 1) := by decide +kernel
theorem dX8_checksum_7 : decode cX8_checksum 7 = .ok (.aload_n 0, 1) := by decide +kernel
theorem dX8_checksum_8 : decode cX8_checksum 8 = .ok (.getfield 10, 3) := by decide +kernel
theorem dX8_checksum_11 : decode cX8_checksum 11 = .ok (.invokeinterface 24 1, 5) := by decide +kernel
theorem dX8_checksum_16 : decode cX8_checksum 16 = .ok (.if_icmp .ge 97, 3) := by decide +kernel
theorem dX8_checksum_113 : decode cX8_checksum 113 = .ok (.ldc2_w 240, 3) := by decide +kernel
theorem dX8_checksum_116 : decode cX8_checksum 116 = .ok (.lload_n 1, 1) := by decide +kernel
theorem dX8_checksum_117 : decode cX8_checksum 117 = .ok (.lmul, 1) := by decide +kernel
theorem dX8_checksum_118 : decode cX8_checksum 118 = .ok (.aload_n 0, 1) := by decide +kernel
theorem dX8_checksum_119 : decode cX8_checksum 119 = .ok (.getfield 57, 3) := by decide +kernel
theorem dX8_checksum_122 : decode cX8_checksum 122 = .ok (.i2l, 1) := by decide +kernel
theorem dX8_checksum_123 : decode cX8_checksum 123 = .ok (.ladd, 1) := by decide +kernel
theorem dX8_checksum_124 : decode cX8_checksum 124 = .ok (.lreturn, 1) := by decide +kernel
theorem dX8_collected_0 : decode cX8_collected 0 = .ok (.lconst 0, 1) := by decide +kernel
theorem dX8_collected_1 : decode cX8_collected 1 = .ok (.lstore_n 1, 1) := by decide +kernel
theorem dX8_collected_2 : decode cX8_collected 2 = .ok (.aload_n 0, 1) := by decide +kernel
theorem dX8_collected_3 : decode cX8_collected 3 = .ok (.getfield 10, 3) := by decide +kernel
theorem dX8_collected_6 : decode cX8_collected 6 = .ok (.invokeinterface 155 1, 5) := by decide +kernel
theorem dX8_collected_11 : decode cX8_collected 11 = .ok (.astore_n 3, 1) := by decide +kernel
theorem dX8_collected_12 : decode cX8_collected 12 = .ok (.aload_n 3, 1) := by decide +kernel
theorem dX8_collected_13 : decode cX8_collected 13 = .ok (.invokeinterface 159 1, 5) := by decide +kernel
theorem dX8_collected_18 : decode cX8_collected 18 = .ok (.ifCond .eq 85, 3) := by decide +kernel
theorem dX8_collected_103 : decode cX8_collected 103 = .ok (.lload_n 1, 1) := by decide +kernel
theorem dX8_collected_104 : decode cX8_collected 104 = .ok (.lreturn, 1) := by decide +kernel
theorem dX8_credit_0 : decode cX8_credit 0 = .ok (.aload_n 0, 1) := by decide +kernel
theorem dX8_credit_1 : decode cX8_credit 1 = .ok (.aload_n 0, 1) := by decide +kernel
theorem dX8_credit_2 : decode cX8_credit 2 = .ok (.iload_n 1, 1) := by decide +kernel
theorem dX8_credit_3 : decode cX8_credit 3 = .ok (.invokevirtual 34, 3) := by decide +kernel
theorem dX8_credit_6 : decode cX8_credit 6 = .ok (.iconst 1, 1) := by decide +kernel
theorem dX8_credit_7 : decode cX8_credit 7 = .ok (.invokevirtual 70, 3) := by decide +kernel
theorem dX8_credit_10 : decode cX8_credit 10 = .ok (.ifCond .eq 7, 3) := by decide +kernel
theorem dX8_credit_13 : decode cX8_credit 13 = .ok (.lconst 0, 1) := by decide +kernel
theorem dX8_credit_14 : decode cX8_credit 14 = .ok (.goto 11, 3) := by decide +kernel
theorem dX8_credit_25 : decode cX8_credit 25 = .ok (.lreturn, 1) := by decide +kernel
theorem dX8_difference_0 : decode cX8_difference 0 = .ok (.aload_n 0, 1) := by decide +kernel
theorem dX8_difference_1 : decode cX8_difference 1 = .ok (.aload_n 0, 1) := by decide +kernel
theorem dX8_difference_2 : decode cX8_difference 2 = .ok (.iload_n 1, 1) := by decide +kernel
theorem dX8_difference_3 : decode cX8_difference 3 = .ok (.invokevirtual 34, 3) := by decide +kernel
theorem dX8_difference_6 : decode cX8_difference 6 = .ok (.iconst 1, 1) := by decide +kernel
theorem dX8_difference_7 : decode cX8_difference 7 = .ok (.invokevirtual 70, 3) := by decide +kernel
theorem dX8_difference_10 : decode cX8_difference 10 = .ok (.ifCond .ne 17, 3) := by decide +kernel
theorem dX8_difference_27 : decode cX8_difference 27 = .ok (.lconst 0, 1) := by decide +kernel
theorem dX8_difference_28 : decode cX8_difference 28 = .ok (.goto 35, 3) := by decide +kernel
theorem dX8_difference_63 : decode cX8_difference 63 = .ok (.lreturn, 1) := by decide +kernel
theorem dX8_dispute_0 : decode cX8_dispute 0 = .ok (.aload_n 0, 1) := by decide +kernel
theorem dX8_dispute_1 : decode cX8_dispute 1 = .ok (.aload_n 0, 1) := by decide +kernel
theorem dX8_dispute_2 : decode cX8_dispute 2 = .ok (.iload_n 1, 1) := by decide +kernel
theorem dX8_dispute_3 : decode cX8_dispute 3 = .ok (.iload_n 2, 1) := by decide +kernel
theorem dX8_dispute_4 : decode cX8_dispute 4 = .ok (.invokevirtual 134, 3) := by decide +kernel
theorem dX8_dispute_7 : decode cX8_dispute 7 = .ok (.iconst 1, 1) := by decide +kernel
theorem dX8_dispute_8 : decode cX8_dispute 8 = .ok (.invokevirtual 70, 3) := by decide +kernel
theorem dX8_dispute_11 : decode cX8_dispute 11 = .ok (.ifCond .eq 5, 3) := by decide +kernel
theorem dX8_dispute_14 : decode cX8_dispute 14 = .ok (.iconst 0, 1) := by decide +kernel
theorem dX8_dispute_15 : decode cX8_dispute 15 = .ok (.ireturn, 1) := by decide +kernel
theorem dX8_events_0 : decode cX8_events 0 = .ok (.aload_n 0, 1) := by decide +kernel
theorem dX8_events_1 : decode cX8_events 1 = .ok (.aload_n 0, 1) := by decide +kernel
theorem dX8_events_2 : decode cX8_events 2 = .ok (.iload_n 1, 1) := by decide +kernel
theorem dX8_events_3 : decode cX8_events 3 = .ok (.invokevirtual 34, 3) := by decide +kernel
theorem dX8_events_6 : decode cX8_events 6 = .ok (.iconst 1, 1) := by decide +kernel
theorem dX8_events_7 : decode cX8_events 7 = .ok (.invokevirtual 70, 3) := by decide +kernel
theorem dX8_events_10 : decode cX8_events 10 = .ok (.ifCond .eq 7, 3) := by decide +kernel
theorem dX8_events_13 : decode cX8_events 13 = .ok (.iconst 0, 1) := by decide +kernel
theorem dX8_events_14 : decode cX8_events 14 = .ok (.goto 24, 3) := by decide +kernel
theorem dX8_events_38 : decode cX8_events 38 = .ok (.ireturn, 1) := by decide +kernel
theorem dX8_hadGrace_0 : decode cX8_hadGrace 0 = .ok (.aload_n 0, 1) := by decide +kernel
theorem dX8_hadGrace_1 : decode cX8_hadGrace 1 = .ok (.aload_n 0, 1) := by decide +kernel
theorem dX8_hadGrace_2 : decode cX8_hadGrace 2 = .ok (.iload_n 1, 1) := by decide +kernel
theorem dX8_hadGrace_3 : decode cX8_hadGrace 3 = .ok (.invokevirtual 34, 3) := by decide +kernel
theorem dX8_hadGrace_6 : decode cX8_hadGrace 6 = .ok (.iconst 1, 1) := by decide +kernel
theorem dX8_hadGrace_7 : decode cX8_hadGrace 7 = .ok (.invokevirtual 70, 3) := by decide +kernel
theorem dX8_hadGrace_10 : decode cX8_hadGrace 10 = .ok (.ifCond .ne 33, 3) := by decide +kernel
theorem dX8_hadGrace_43 : decode cX8_hadGrace 43 = .ok (.iconst 0, 1) := by decide +kernel
theorem dX8_hadGrace_44 : decode cX8_hadGrace 44 = .ok (.ireturn, 1) := by decide +kernel
theorem dX8_init_0 : decode cX8_init 0 = .ok (.aload_n 0, 1) := by decide +kernel
theorem dX8_init_1 : decode cX8_init 1 = .ok (.invokespecial 1, 3) := by decide +kernel
theorem dX8_init_4 : decode cX8_init 4 = .ok (.aload_n 0, 1) := by decide +kernel
theorem dX8_init_5 : decode cX8_init 5 = .ok (.new 7, 3) := by decide +kernel
theorem dX8_init_8 : decode cX8_init 8 = .ok (.dup, 1) := by decide +kernel
theorem dX8_init_9 : decode cX8_init 9 = .ok (.invokespecial 9, 3) := by decide +kernel
theorem dX8_init_12 : decode cX8_init 12 = .ok (.putfield 10, 3) := by decide +kernel
theorem dX8_init_15 : decode cX8_init 15 = .ok (.aload_n 0, 1) := by decide +kernel
theorem dX8_init_16 : decode cX8_init 16 = .ok (.iconst 4, 1) := by decide +kernel
theorem dX8_init_17 : decode cX8_init 17 = .ok (.newarray .int, 2) := by decide +kernel
theorem dX8_init_19 : decode cX8_init 19 = .ok (.dup, 1) := by decide +kernel
theorem dX8_init_20 : decode cX8_init 20 = .ok (.iconst 0, 1) := by decide +kernel
theorem dX8_init_21 : decode cX8_init 21 = .ok (.sipush 1000, 3) := by decide +kernel
theorem dX8_init_24 : decode cX8_init 24 = .ok (.iastore, 1) := by decide +kernel
theorem dX8_init_25 : decode cX8_init 25 = .ok (.dup, 1) := by decide +kernel
theorem dX8_init_26 : decode cX8_init 26 = .ok (.iconst 1, 1) := by decide +kernel
theorem dX8_init_27 : decode cX8_init 27 = .ok (.sipush 1000, 3) := by decide +kernel
theorem dX8_init_30 : decode cX8_init 30 = .ok (.iastore, 1) := by decide +kernel
theorem dX8_init_31 : decode cX8_init 31 = .ok (.dup, 1) := by decide +kernel
theorem dX8_init_32 : decode cX8_init 32 = .ok (.iconst 2, 1) := by decide +kernel
theorem dX8_init_33 : decode cX8_init 33 = .ok (.sipush 1000, 3) := by decide +kernel
theorem dX8_init_36 : decode cX8_init 36 = .ok (.iastore, 1) := by decide +kernel
theorem dX8_init_37 : decode cX8_init 37 = .ok (.dup, 1) := by decide +kernel
theorem dX8_init_38 : decode cX8_init 38 = .ok (.iconst 3, 1) := by decide +kernel
theorem dX8_init_39 : decode cX8_init 39 = .ok (.sipush 1000, 3) := by decide +kernel
theorem dX8_init_42 : decode cX8_init 42 = .ok (.iastore, 1) := by decide +kernel
theorem dX8_init_43 : decode cX8_init 43 = .ok (.putfield 16, 3) := by decide +kernel
theorem dX8_init_46 : decode cX8_init 46 = .ok (.return_, 1) := by decide +kernel
theorem dX8_interest_0 : decode cX8_interest 0 = .ok (.aload_n 0, 1) := by decide +kernel
theorem dX8_interest_1 : decode cX8_interest 1 = .ok (.aload_n 0, 1) := by decide +kernel
theorem dX8_interest_2 : decode cX8_interest 2 = .ok (.iload_n 1, 1) := by decide +kernel
theorem dX8_interest_3 : decode cX8_interest 3 = .ok (.invokevirtual 34, 3) := by decide +kernel
theorem dX8_interest_6 : decode cX8_interest 6 = .ok (.iconst 1, 1) := by decide +kernel
theorem dX8_interest_7 : decode cX8_interest 7 = .ok (.invokevirtual 70, 3) := by decide +kernel
theorem dX8_interest_10 : decode cX8_interest 10 = .ok (.ifCond .ne 16, 3) := by decide +kernel
theorem dX8_interest_26 : decode cX8_interest 26 = .ok (.lconst 0, 1) := by decide +kernel
theorem dX8_interest_27 : decode cX8_interest 27 = .ok (.goto 13, 3) := by decide +kernel
theorem dX8_interest_40 : decode cX8_interest 40 = .ok (.lreturn, 1) := by decide +kernel
theorem dX8_isAccount_0 : decode cX8_isAccount 0 = .ok (.iload_n 1, 1) := by decide +kernel
theorem dX8_isAccount_1 : decode cX8_isAccount 1 = .ok (.iconst 0, 1) := by decide +kernel
theorem dX8_isAccount_2 : decode cX8_isAccount 2 = .ok (.aload_n 0, 1) := by decide +kernel
theorem dX8_isAccount_3 : decode cX8_isAccount 3 = .ok (.getfield 10, 3) := by decide +kernel
theorem dX8_isAccount_6 : decode cX8_isAccount 6 = .ok (.invokeinterface 24 1, 5) := by decide +kernel
theorem dX8_isAccount_11 : decode cX8_isAccount 11 = .ok (.iconst 1, 1) := by decide +kernel
theorem dX8_isAccount_12 : decode cX8_isAccount 12 = .ok (.isub, 1) := by decide +kernel
theorem dX8_isAccount_13 : decode cX8_isAccount 13 = .ok (.invokestatic 30, 3) := by decide +kernel
theorem dX8_isAccount_16 : decode cX8_isAccount 16 = .ok (.ireturn, 1) := by decide +kernel
theorem dX8_isBack_0 : decode cX8_isBack 0 = .ok (.aload_n 0, 1) := by decide +kernel
theorem dX8_isBack_1 : decode cX8_isBack 1 = .ok (.aload_n 0, 1) := by decide +kernel
theorem dX8_isBack_2 : decode cX8_isBack 2 = .ok (.iload_n 1, 1) := by decide +kernel
theorem dX8_isBack_3 : decode cX8_isBack 3 = .ok (.iload_n 2, 1) := by decide +kernel
theorem dX8_isBack_4 : decode cX8_isBack 4 = .ok (.invokevirtual 134, 3) := by decide +kernel
theorem dX8_isBack_7 : decode cX8_isBack 7 = .ok (.iconst 1, 1) := by decide +kernel
theorem dX8_isBack_8 : decode cX8_isBack 8 = .ok (.invokevirtual 70, 3) := by decide +kernel
theorem dX8_isBack_11 : decode cX8_isBack 11 = .ok (.ifCond .ne 19, 3) := by decide +kernel
theorem dX8_isBack_30 : decode cX8_isBack 30 = .ok (.iconst 0, 1) := by decide +kernel
theorem dX8_isBack_31 : decode cX8_isBack 31 = .ok (.ireturn, 1) := by decide +kernel
theorem dX8_isEvent_0 : decode cX8_isEvent 0 = .ok (.aload_n 0, 1) := by decide +kernel
theorem dX8_isEvent_1 : decode cX8_isEvent 1 = .ok (.iload_n 1, 1) := by decide +kernel
theorem dX8_isEvent_2 : decode cX8_isEvent 2 = .ok (.invokevirtual 34, 3) := by decide +kernel
theorem dX8_isEvent_5 : decode cX8_isEvent 5 = .ok (.ifCond .eq 38, 3) := by decide +kernel
theorem dX8_isEvent_43 : decode cX8_isEvent 43 = .ok (.iconst 0, 1) := by decide +kernel
theorem dX8_isEvent_44 : decode cX8_isEvent 44 = .ok (.ireturn, 1) := by decide +kernel
theorem dX8_isIn_0 : decode cX8_isIn 0 = .ok (.iload_n 0, 1) := by decide +kernel
theorem dX8_isIn_1 : decode cX8_isIn 1 = .ok (.iload_n 1, 1) := by decide +kernel
theorem dX8_isIn_2 : decode cX8_isIn 2 = .ok (.if_icmp .lt 12, 3) := by decide +kernel
theorem dX8_isIn_5 : decode cX8_isIn 5 = .ok (.iload_n 0, 1) := by decide +kernel
theorem dX8_isIn_6 : decode cX8_isIn 6 = .ok (.iload_n 2, 1) := by decide +kernel
theorem dX8_isIn_7 : decode cX8_isIn 7 = .ok (.if_icmp .gt 7, 3) := by decide +kernel
theorem dX8_isIn_10 : decode cX8_isIn 10 = .ok (.iconst 1, 1) := by decide +kernel
theorem dX8_isIn_11 : decode cX8_isIn 11 = .ok (.goto 4, 3) := by decide +kernel
theorem dX8_isIn_14 : decode cX8_isIn 14 = .ok (.iconst 0, 1) := by decide +kernel
theorem dX8_isIn_15 : decode cX8_isIn 15 = .ok (.ireturn, 1) := by decide +kernel
theorem dX8_isOff_0 : decode cX8_isOff 0 = .ok (.aload_n 0, 1) := by decide +kernel
theorem dX8_isOff_1 : decode cX8_isOff 1 = .ok (.aload_n 0, 1) := by decide +kernel
theorem dX8_isOff_2 : decode cX8_isOff 2 = .ok (.iload_n 1, 1) := by decide +kernel
theorem dX8_isOff_3 : decode cX8_isOff 3 = .ok (.invokevirtual 34, 3) := by decide +kernel
theorem dX8_isOff_6 : decode cX8_isOff 6 = .ok (.iconst 1, 1) := by decide +kernel
theorem dX8_isOff_7 : decode cX8_isOff 7 = .ok (.invokevirtual 70, 3) := by decide +kernel
theorem dX8_isOff_10 : decode cX8_isOff 10 = .ok (.ifCond .ne 18, 3) := by decide +kernel
theorem dX8_isOff_28 : decode cX8_isOff 28 = .ok (.iconst 0, 1) := by decide +kernel
theorem dX8_isOff_29 : decode cX8_isOff 29 = .ok (.ireturn, 1) := by decide +kernel
theorem dX8_isSound_0 : decode cX8_isSound 0 = .ok (.iconst 1, 1) := by decide +kernel
theorem dX8_isSound_1 : decode cX8_isSound 1 = .ok (.ireturn, 1) := by decide +kernel
theorem dX8_kindOf_0 : decode cX8_kindOf 0 = .ok (.aload_n 0, 1) := by decide +kernel
theorem dX8_kindOf_1 : decode cX8_kindOf 1 = .ok (.aload_n 0, 1) := by decide +kernel
theorem dX8_kindOf_2 : decode cX8_kindOf 2 = .ok (.iload_n 1, 1) := by decide +kernel
theorem dX8_kindOf_3 : decode cX8_kindOf 3 = .ok (.iload_n 2, 1) := by decide +kernel
theorem dX8_kindOf_4 : decode cX8_kindOf 4 = .ok (.invokevirtual 134, 3) := by decide +kernel
theorem dX8_kindOf_7 : decode cX8_kindOf 7 = .ok (.iconst 1, 1) := by decide +kernel
theorem dX8_kindOf_8 : decode cX8_kindOf 8 = .ok (.invokevirtual 70, 3) := by decide +kernel
theorem dX8_kindOf_11 : decode cX8_kindOf 11 = .ok (.ifCond .eq 8, 3) := by decide +kernel
theorem dX8_kindOf_14 : decode cX8_kindOf 14 = .ok (.bipush 45, 2) := by decide +kernel
theorem dX8_kindOf_16 : decode cX8_kindOf 16 = .ok (.goto 12, 3) := by decide +kernel
theorem dX8_kindOf_28 : decode cX8_kindOf 28 = .ok (.ireturn, 1) := by decide +kernel
theorem dX8_least_0 : decode cX8_least 0 = .ok (.aload_n 0, 1) := by decide +kernel
theorem dX8_least_1 : decode cX8_least 1 = .ok (.aload_n 0, 1) := by decide +kernel
theorem dX8_least_2 : decode cX8_least 2 = .ok (.iload_n 1, 1) := by decide +kernel
theorem dX8_least_3 : decode cX8_least 3 = .ok (.invokevirtual 34, 3) := by decide +kernel
theorem dX8_least_6 : decode cX8_least 6 = .ok (.iconst 1, 1) := by decide +kernel
theorem dX8_least_7 : decode cX8_least 7 = .ok (.invokevirtual 70, 3) := by decide +kernel
theorem dX8_least_10 : decode cX8_least 10 = .ok (.ifCond .ne 16, 3) := by decide +kernel
theorem dX8_least_26 : decode cX8_least 26 = .ok (.lconst 0, 1) := by decide +kernel
theorem dX8_least_27 : decode cX8_least 27 = .ok (.goto 13, 3) := by decide +kernel
theorem dX8_least_40 : decode cX8_least 40 = .ok (.lreturn, 1) := by decide +kernel
theorem dX8_meanOwed_0 : decode cX8_meanOwed 0 = .ok (.lconst 0, 1) := by decide +kernel
theorem dX8_meanOwed_1 : decode cX8_meanOwed 1 = .ok (.lstore_n 1, 1) := by decide +kernel
theorem dX8_meanOwed_2 : decode cX8_meanOwed 2 = .ok (.iconst 0, 1) := by decide +kernel
theorem dX8_meanOwed_3 : decode cX8_meanOwed 3 = .ok (.istore_n 3, 1) := by decide +kernel
theorem dX8_meanOwed_4 : decode cX8_meanOwed 4 = .ok (.iload_n 3, 1) := by decide +kernel
theorem dX8_meanOwed_5 : decode cX8_meanOwed 5 = .ok (.aload_n 0, 1) := by decide +kernel
theorem dX8_meanOwed_6 : decode cX8_meanOwed 6 = .ok (.getfield 10, 3) := by decide +kernel
theorem dX8_meanOwed_9 : decode cX8_meanOwed 9 = .ok (.invokeinterface 24 1, 5) := by decide +kernel
theorem dX8_meanOwed_14 : decode cX8_meanOwed 14 = .ok (.if_icmp .ge 20, 3) := by decide +kernel
theorem dX8_meanOwed_34 : decode cX8_meanOwed 34 = .ok (.aload_n 0, 1) := by decide +kernel
theorem dX8_meanOwed_35 : decode cX8_meanOwed 35 = .ok (.aload_n 0, 1) := by decide +kernel
theorem dX8_meanOwed_36 : decode cX8_meanOwed 36 = .ok (.getfield 10, 3) := by decide +kernel
theorem dX8_meanOwed_39 : decode cX8_meanOwed 39 = .ok (.invokeinterface 242 1, 5) := by decide +kernel
theorem dX8_meanOwed_44 : decode cX8_meanOwed 44 = .ok (.ifCond .ne 7, 3) := by decide +kernel
theorem dX8_meanOwed_51 : decode cX8_meanOwed 51 = .ok (.iconst 0, 1) := by decide +kernel
theorem dX8_meanOwed_52 : decode cX8_meanOwed 52 = .ok (.iconst 1, 1) := by decide +kernel
theorem dX8_meanOwed_53 : decode cX8_meanOwed 53 = .ok (.invokevirtual 70, 3) := by decide +kernel
theorem dX8_meanOwed_56 : decode cX8_meanOwed 56 = .ok (.ifCond .eq 7, 3) := by decide +kernel
theorem dX8_meanOwed_59 : decode cX8_meanOwed 59 = .ok (.dconst 0, 1) := by decide +kernel
theorem dX8_meanOwed_60 : decode cX8_meanOwed 60 = .ok (.goto 16, 3) := by decide +kernel
theorem dX8_meanOwed_76 : decode cX8_meanOwed 76 = .ok (.dreturn, 1) := by decide +kernel
theorem dX8_missed_0 : decode cX8_missed 0 = .ok (.aload_n 0, 1) := by decide +kernel
theorem dX8_missed_1 : decode cX8_missed 1 = .ok (.aload_n 0, 1) := by decide +kernel
theorem dX8_missed_2 : decode cX8_missed 2 = .ok (.iload_n 1, 1) := by decide +kernel
theorem dX8_missed_3 : decode cX8_missed 3 = .ok (.invokevirtual 34, 3) := by decide +kernel
theorem dX8_missed_6 : decode cX8_missed 6 = .ok (.iconst 1, 1) := by decide +kernel
theorem dX8_missed_7 : decode cX8_missed 7 = .ok (.invokevirtual 70, 3) := by decide +kernel
theorem dX8_missed_10 : decode cX8_missed 10 = .ok (.ifCond .eq 7, 3) := by decide +kernel
theorem dX8_missed_13 : decode cX8_missed 13 = .ok (.iconst 0, 1) := by decide +kernel
theorem dX8_missed_14 : decode cX8_missed 14 = .ok (.goto 11, 3) := by decide +kernel
theorem dX8_missed_25 : decode cX8_missed 25 = .ok (.ireturn, 1) := by decide +kernel
theorem dX8_missedShare_0 : decode cX8_missedShare 0 = .ok (.iconst 0, 1) := by decide +kernel
theorem dX8_missedShare_1 : decode cX8_missedShare 1 = .ok (.istore_n 1, 1) := by decide +kernel
theorem dX8_missedShare_2 : decode cX8_missedShare 2 = .ok (.iconst 0, 1) := by decide +kernel
theorem dX8_missedShare_3 : decode cX8_missedShare 3 = .ok (.istore_n 2, 1) := by decide +kernel
theorem dX8_missedShare_4 : decode cX8_missedShare 4 = .ok (.iconst 0, 1) := by decide +kernel
theorem dX8_missedShare_5 : decode cX8_missedShare 5 = .ok (.istore_n 3, 1) := by decide +kernel
theorem dX8_missedShare_6 : decode cX8_missedShare 6 = .ok (.iload_n 3, 1) := by decide +kernel
theorem dX8_missedShare_7 : decode cX8_missedShare 7 = .ok (.aload_n 0, 1) := by decide +kernel
theorem dX8_missedShare_8 : decode cX8_missedShare 8 = .ok (.getfield 10, 3) := by decide +kernel
theorem dX8_missedShare_11 : decode cX8_missedShare 11 = .ok (.invokeinterface 24 1, 5) := by decide +kernel
theorem dX8_missedShare_16 : decode cX8_missedShare 16 = .ok (.if_icmp .ge 32, 3) := by decide +kernel
theorem dX8_missedShare_48 : decode cX8_missedShare 48 = .ok (.aload_n 0, 1) := by decide +kernel
theorem dX8_missedShare_49 : decode cX8_missedShare 49 = .ok (.iload_n 1, 1) := by decide +kernel
theorem dX8_missedShare_50 : decode cX8_missedShare 50 = .ok (.ifCond .le 7, 3) := by decide +kernel
theorem dX8_missedShare_57 : decode cX8_missedShare 57 = .ok (.iconst 0, 1) := by decide +kernel
theorem dX8_missedShare_58 : decode cX8_missedShare 58 = .ok (.iconst 1, 1) := by decide +kernel
theorem dX8_missedShare_59 : decode cX8_missedShare 59 = .ok (.invokevirtual 70, 3) := by decide +kernel
theorem dX8_missedShare_62 : decode cX8_missedShare 62 = .ok (.ifCond .eq 7, 3) := by decide +kernel
theorem dX8_missedShare_65 : decode cX8_missedShare 65 = .ok (.fconst 0, 1) := by decide +kernel
theorem dX8_missedShare_66 : decode cX8_missedShare 66 = .ok (.goto 8, 3) := by decide +kernel
theorem dX8_missedShare_74 : decode cX8_missedShare 74 = .ok (.freturn, 1) := by decide +kernel
theorem dX8_missing_0 : decode cX8_missing 0 = .ok (.aload_n 0, 1) := by decide +kernel
theorem dX8_missing_1 : decode cX8_missing 1 = .ok (.aload_n 0, 1) := by decide +kernel
theorem dX8_missing_2 : decode cX8_missing 2 = .ok (.iload_n 1, 1) := by decide +kernel
theorem dX8_missing_3 : decode cX8_missing 3 = .ok (.invokevirtual 34, 3) := by decide +kernel
theorem dX8_missing_6 : decode cX8_missing 6 = .ok (.iconst 1, 1) := by decide +kernel
theorem dX8_missing_7 : decode cX8_missing 7 = .ok (.invokevirtual 70, 3) := by decide +kernel
theorem dX8_missing_10 : decode cX8_missing 10 = .ok (.ifCond .eq 7, 3) := by decide +kernel
theorem dX8_missing_13 : decode cX8_missing 13 = .ok (.lconst 0, 1) := by decide +kernel
theorem dX8_missing_14 : decode cX8_missing 14 = .ok (.goto 11, 3) := by decide +kernel
theorem dX8_missing_25 : decode cX8_missing 25 = .ok (.lreturn, 1) := by decide +kernel
theorem dX8_no_0 : decode cX8_no 0 = .ok (.aload_n 0, 1) := by decide +kernel
theorem dX8_no_1 : decode cX8_no 1 = .ok (.iload_n 1, 1) := by decide +kernel
theorem dX8_no_2 : decode cX8_no 2 = .ok (.ifCond .eq 7, 3) := by decide +kernel
theorem dX8_no_5 : decode cX8_no 5 = .ok (.iconst 0, 1) := by decide +kernel
theorem dX8_no_6 : decode cX8_no 6 = .ok (.goto 4, 3) := by decide +kernel
theorem dX8_no_9 : decode cX8_no 9 = .ok (.iload_n 2, 1) := by decide +kernel
theorem dX8_no_10 : decode cX8_no 10 = .ok (.putfield 20, 3) := by decide +kernel
theorem dX8_no_13 : decode cX8_no 13 = .ok (.iload_n 1, 1) := by decide +kernel
theorem dX8_no_14 : decode cX8_no 14 = .ok (.ifCond .ne 7, 3) := by decide +kernel
theorem dX8_no_17 : decode cX8_no 17 = .ok (.iconst 1, 1) := by decide +kernel
theorem dX8_no_18 : decode cX8_no 18 = .ok (.goto 4, 3) := by decide +kernel
theorem dX8_no_21 : decode cX8_no 21 = .ok (.iconst 0, 1) := by decide +kernel
theorem dX8_no_22 : decode cX8_no 22 = .ok (.ireturn, 1) := by decide +kernel
theorem dX8_open_0 : decode cX8_open 0 = .ok (.aload_n 0, 1) := by decide +kernel
theorem dX8_open_1 : decode cX8_open 1 = .ok (.iload_n 1, 1) := by decide +kernel
theorem dX8_open_2 : decode cX8_open 2 = .ok (.iconst 0, 1) := by decide +kernel
theorem dX8_open_3 : decode cX8_open 3 = .ok (.ldc 69, 2) := by decide +kernel
theorem dX8_open_5 : decode cX8_open 5 = .ok (.invokestatic 30, 3) := by decide +kernel
theorem dX8_open_8 : decode cX8_open 8 = .ok (.iconst 1, 1) := by decide +kernel
theorem dX8_open_9 : decode cX8_open 9 = .ok (.invokevirtual 70, 3) := by decide +kernel
theorem dX8_open_12 : decode cX8_open 12 = .ok (.ifCond .ne 29, 3) := by decide +kernel
theorem dX8_open_15 : decode cX8_open 15 = .ok (.aload_n 0, 1) := by decide +kernel
theorem dX8_open_16 : decode cX8_open 16 = .ok (.aload_n 0, 1) := by decide +kernel
theorem dX8_open_17 : decode cX8_open 17 = .ok (.getfield 10, 3) := by decide +kernel
theorem dX8_open_20 : decode cX8_open 20 = .ok (.invokeinterface 24 1, 5) := by decide +kernel
theorem dX8_open_25 : decode cX8_open 25 = .ok (.iconst 4, 1) := by decide +kernel
theorem dX8_open_26 : decode cX8_open 26 = .ok (.if_icmp .ge 7, 3) := by decide +kernel
theorem dX8_open_29 : decode cX8_open 29 = .ok (.iconst 1, 1) := by decide +kernel
theorem dX8_open_30 : decode cX8_open 30 = .ok (.goto 4, 3) := by decide +kernel
theorem dX8_open_34 : decode cX8_open 34 = .ok (.iconst 2, 1) := by decide +kernel
theorem dX8_open_35 : decode cX8_open 35 = .ok (.invokevirtual 70, 3) := by decide +kernel
theorem dX8_open_38 : decode cX8_open 38 = .ok (.ifCond .eq 5, 3) := by decide +kernel
theorem dX8_open_41 : decode cX8_open 41 = .ok (.iconst 0, 1) := by decide +kernel
theorem dX8_open_42 : decode cX8_open 42 = .ok (.ireturn, 1) := by decide +kernel
theorem dX8_open_43 : decode cX8_open 43 = .ok (.aload_n 0, 1) := by decide +kernel
theorem dX8_open_44 : decode cX8_open 44 = .ok (.getfield 10, 3) := by decide +kernel
theorem dX8_open_47 : decode cX8_open 47 = .ok (.new 42, 3) := by decide +kernel
theorem dX8_open_50 : decode cX8_open 50 = .ok (.dup, 1) := by decide +kernel
theorem dX8_open_51 : decode cX8_open 51 = .ok (.invokespecial 74, 3) := by decide +kernel
theorem dX8_open_54 : decode cX8_open 54 = .ok (.invokeinterface 63 2, 5) := by decide +kernel
theorem dX8_open_59 : decode cX8_open 59 = .ok (.pop, 1) := by decide +kernel
theorem dX8_open_60 : decode cX8_open 60 = .ok (.aload_n 0, 1) := by decide +kernel
theorem dX8_open_61 : decode cX8_open 61 = .ok (.getfield 10, 3) := by decide +kernel
theorem dX8_open_64 : decode cX8_open 64 = .ok (.aload_n 0, 1) := by decide +kernel
theorem dX8_open_65 : decode cX8_open 65 = .ok (.getfield 10, 3) := by decide +kernel
theorem dX8_open_68 : decode cX8_open 68 = .ok (.invokeinterface 24 1, 5) := by decide +kernel
theorem dX8_open_73 : decode cX8_open 73 = .ok (.iconst 1, 1) := by decide +kernel
theorem dX8_open_74 : decode cX8_open 74 = .ok (.isub, 1) := by decide +kernel
theorem dX8_open_75 : decode cX8_open 75 = .ok (.invokeinterface 38 2, 5) := by decide +kernel
theorem dX8_open_80 : decode cX8_open 80 = .ok (.checkcast 42, 3) := by decide +kernel
theorem dX8_open_83 : decode cX8_open 83 = .ok (.iload_n 1, 1) := by decide +kernel
theorem dX8_open_84 : decode cX8_open 84 = .ok (.putfield 75, 3) := by decide +kernel
theorem dX8_open_87 : decode cX8_open 87 = .ok (.aload_n 0, 1) := by decide +kernel
theorem dX8_open_88 : decode cX8_open 88 = .ok (.getfield 10, 3) := by decide +kernel
theorem dX8_open_91 : decode cX8_open 91 = .ok (.invokeinterface 24 1, 5) := by decide +kernel
theorem dX8_open_96 : decode cX8_open 96 = .ok (.iconst 1, 1) := by decide +kernel
theorem dX8_open_97 : decode cX8_open 97 = .ok (.isub, 1) := by decide +kernel
theorem dX8_open_98 : decode cX8_open 98 = .ok (.ireturn, 1) := by decide +kernel
theorem dX8_owed_0 : decode cX8_owed 0 = .ok (.aload_n 0, 1) := by decide +kernel
theorem dX8_owed_1 : decode cX8_owed 1 = .ok (.aload_n 0, 1) := by decide +kernel
theorem dX8_owed_2 : decode cX8_owed 2 = .ok (.iload_n 1, 1) := by decide +kernel
theorem dX8_owed_3 : decode cX8_owed 3 = .ok (.invokevirtual 34, 3) := by decide +kernel
theorem dX8_owed_6 : decode cX8_owed 6 = .ok (.iconst 1, 1) := by decide +kernel
theorem dX8_owed_7 : decode cX8_owed 7 = .ok (.invokevirtual 70, 3) := by decide +kernel
theorem dX8_owed_10 : decode cX8_owed 10 = .ok (.ifCond .eq 7, 3) := by decide +kernel
theorem dX8_owed_13 : decode cX8_owed 13 = .ok (.lconst 0, 1) := by decide +kernel
theorem dX8_owed_14 : decode cX8_owed 14 = .ok (.goto 11, 3) := by decide +kernel
theorem dX8_owed_25 : decode cX8_owed 25 = .ok (.lreturn, 1) := by decide +kernel
theorem dX8_paid_0 : decode cX8_paid 0 = .ok (.aload_n 0, 1) := by decide +kernel
theorem dX8_paid_1 : decode cX8_paid 1 = .ok (.aload_n 0, 1) := by decide +kernel
theorem dX8_paid_2 : decode cX8_paid 2 = .ok (.iload_n 1, 1) := by decide +kernel
theorem dX8_paid_3 : decode cX8_paid 3 = .ok (.invokevirtual 34, 3) := by decide +kernel
theorem dX8_paid_6 : decode cX8_paid 6 = .ok (.iconst 1, 1) := by decide +kernel
theorem dX8_paid_7 : decode cX8_paid 7 = .ok (.invokevirtual 70, 3) := by decide +kernel
theorem dX8_paid_10 : decode cX8_paid 10 = .ok (.ifCond .ne 16, 3) := by decide +kernel
theorem dX8_paid_26 : decode cX8_paid 26 = .ok (.bipush 45, 2) := by decide +kernel
theorem dX8_paid_28 : decode cX8_paid 28 = .ok (.ireturn, 1) := by decide +kernel
theorem dX8_pass_0 : decode cX8_pass 0 = .ok (.aload_n 0, 1) := by decide +kernel
theorem dX8_pass_1 : decode cX8_pass 1 = .ok (.iload_n 1, 1) := by decide +kernel
theorem dX8_pass_2 : decode cX8_pass 2 = .ok (.iconst 1, 1) := by decide +kernel
theorem dX8_pass_3 : decode cX8_pass 3 = .ok (.bipush 30, 2) := by decide +kernel
theorem dX8_pass_5 : decode cX8_pass 5 = .ok (.invokestatic 30, 3) := by decide +kernel
theorem dX8_pass_8 : decode cX8_pass 8 = .ok (.iconst 1, 1) := by decide +kernel
theorem dX8_pass_9 : decode cX8_pass 9 = .ok (.invokevirtual 70, 3) := by decide +kernel
theorem dX8_pass_12 : decode cX8_pass 12 = .ok (.ifCond .ne 28, 3) := by decide +kernel
theorem dX8_pass_15 : decode cX8_pass 15 = .ok (.aload_n 0, 1) := by decide +kernel
theorem dX8_pass_16 : decode cX8_pass 16 = .ok (.aload_n 0, 1) := by decide +kernel
theorem dX8_pass_17 : decode cX8_pass 17 = .ok (.getfield 57, 3) := by decide +kernel
theorem dX8_pass_20 : decode cX8_pass 20 = .ok (.iload_n 1, 1) := by decide +kernel
theorem dX8_pass_21 : decode cX8_pass 21 = .ok (.iadd, 1) := by decide +kernel
theorem dX8_pass_22 : decode cX8_pass 22 = .ok (.sipush 360, 3) := by decide +kernel
theorem dX8_pass_25 : decode cX8_pass 25 = .ok (.if_icmp .gt 7, 3) := by decide +kernel
theorem dX8_pass_28 : decode cX8_pass 28 = .ok (.iconst 1, 1) := by decide +kernel
theorem dX8_pass_29 : decode cX8_pass 29 = .ok (.goto 4, 3) := by decide +kernel
theorem dX8_pass_33 : decode cX8_pass 33 = .ok (.iconst 2, 1) := by decide +kernel
theorem dX8_pass_34 : decode cX8_pass 34 = .ok (.invokevirtual 70, 3) := by decide +kernel
theorem dX8_pass_37 : decode cX8_pass 37 = .ok (.ifCond .eq 5, 3) := by decide +kernel
theorem dX8_pass_40 : decode cX8_pass 40 = .ok (.iconst 0, 1) := by decide +kernel
theorem dX8_pass_41 : decode cX8_pass 41 = .ok (.ireturn, 1) := by decide +kernel
theorem dX8_pass_42 : decode cX8_pass 42 = .ok (.iconst 0, 1) := by decide +kernel
theorem dX8_pass_43 : decode cX8_pass 43 = .ok (.istore_n 2, 1) := by decide +kernel
theorem dX8_pass_44 : decode cX8_pass 44 = .ok (.iload_n 2, 1) := by decide +kernel
theorem dX8_pass_45 : decode cX8_pass 45 = .ok (.iload_n 1, 1) := by decide +kernel
theorem dX8_pass_46 : decode cX8_pass 46 = .ok (.if_icmp .ge 97, 3) := by decide +kernel
theorem dX8_pass_49 : decode cX8_pass 49 = .ok (.aload_n 0, 1) := by decide +kernel
theorem dX8_pass_50 : decode cX8_pass 50 = .ok (.dup, 1) := by decide +kernel
theorem dX8_pass_51 : decode cX8_pass 51 = .ok (.getfield 57, 3) := by decide +kernel
theorem dX8_pass_54 : decode cX8_pass 54 = .ok (.iconst 1, 1) := by decide +kernel
theorem dX8_pass_55 : decode cX8_pass 55 = .ok (.iadd, 1) := by decide +kernel
theorem dX8_pass_56 : decode cX8_pass 56 = .ok (.putfield 57, 3) := by decide +kernel
theorem dX8_pass_59 : decode cX8_pass 59 = .ok (.iconst 0, 1) := by decide +kernel
theorem dX8_pass_60 : decode cX8_pass 60 = .ok (.istore_n 3, 1) := by decide +kernel
theorem dX8_pass_61 : decode cX8_pass 61 = .ok (.aload_n 0, 1) := by decide +kernel
theorem dX8_pass_62 : decode cX8_pass 62 = .ok (.getfield 57, 3) := by decide +kernel
theorem dX8_pass_65 : decode cX8_pass 65 = .ok (.bipush 30, 2) := by decide +kernel
theorem dX8_pass_67 : decode cX8_pass 67 = .ok (.irem, 1) := by decide +kernel
theorem dX8_pass_68 : decode cX8_pass 68 = .ok (.ifCond .ne 69, 3) := by decide +kernel
theorem dX8_pass_71 : decode cX8_pass 71 = .ok (.iload_n 3, 1) := by decide +kernel
theorem dX8_pass_72 : decode cX8_pass 72 = .ok (.aload_n 0, 1) := by decide +kernel
theorem dX8_pass_73 : decode cX8_pass 73 = .ok (.getfield 10, 3) := by decide +kernel
theorem dX8_pass_76 : decode cX8_pass 76 = .ok (.invokeinterface 24 1, 5) := by decide +kernel
theorem dX8_pass_81 : decode cX8_pass 81 = .ok (.if_icmp .ge 56, 3) := by decide +kernel
theorem dX8_pass_137 : decode cX8_pass 137 = .ok (.iinc 2 1, 3) := by decide +kernel
theorem dX8_pass_140 : decode cX8_pass 140 = .ok (.goto (-96), 3) := by decide +kernel
theorem dX8_pass_143 : decode cX8_pass 143 = .ok (.aload_n 0, 1) := by decide +kernel
theorem dX8_pass_144 : decode cX8_pass 144 = .ok (.getfield 57, 3) := by decide +kernel
theorem dX8_pass_147 : decode cX8_pass 147 = .ok (.ireturn, 1) := by decide +kernel
theorem dX8_pay_0 : decode cX8_pay 0 = .ok (.aload_n 0, 1) := by decide +kernel
theorem dX8_pay_1 : decode cX8_pay 1 = .ok (.aload_n 0, 1) := by decide +kernel
theorem dX8_pay_2 : decode cX8_pay 2 = .ok (.iload_n 1, 1) := by decide +kernel
theorem dX8_pay_3 : decode cX8_pay 3 = .ok (.invokevirtual 34, 3) := by decide +kernel
theorem dX8_pay_6 : decode cX8_pay 6 = .ok (.iconst 1, 1) := by decide +kernel
theorem dX8_pay_7 : decode cX8_pay 7 = .ok (.invokevirtual 70, 3) := by decide +kernel
theorem dX8_pay_10 : decode cX8_pay 10 = .ok (.ifCond .ne 31, 3) := by decide +kernel
theorem dX8_pay_41 : decode cX8_pay 41 = .ok (.iconst 0, 1) := by decide +kernel
theorem dX8_pay_42 : decode cX8_pay 42 = .ok (.ireturn, 1) := by decide +kernel
theorem dX8_plan_0 : decode cX8_plan 0 = .ok (.aload_n 0, 1) := by decide +kernel
theorem dX8_plan_1 : decode cX8_plan 1 = .ok (.aload_n 0, 1) := by decide +kernel
theorem dX8_plan_2 : decode cX8_plan 2 = .ok (.iload_n 1, 1) := by decide +kernel
theorem dX8_plan_3 : decode cX8_plan 3 = .ok (.invokevirtual 34, 3) := by decide +kernel
theorem dX8_plan_6 : decode cX8_plan 6 = .ok (.iconst 1, 1) := by decide +kernel
theorem dX8_plan_7 : decode cX8_plan 7 = .ok (.invokevirtual 70, 3) := by decide +kernel
theorem dX8_plan_10 : decode cX8_plan 10 = .ok (.ifCond .eq 5, 3) := by decide +kernel
theorem dX8_plan_13 : decode cX8_plan 13 = .ok (.iconst 0, 1) := by decide +kernel
theorem dX8_plan_14 : decode cX8_plan 14 = .ok (.ireturn, 1) := by decide +kernel
theorem dX8_points_0 : decode cX8_points 0 = .ok (.aload_n 0, 1) := by decide +kernel
theorem dX8_points_1 : decode cX8_points 1 = .ok (.aload_n 0, 1) := by decide +kernel
theorem dX8_points_2 : decode cX8_points 2 = .ok (.iload_n 1, 1) := by decide +kernel
theorem dX8_points_3 : decode cX8_points 3 = .ok (.invokevirtual 34, 3) := by decide +kernel
theorem dX8_points_6 : decode cX8_points 6 = .ok (.iconst 1, 1) := by decide +kernel
theorem dX8_points_7 : decode cX8_points 7 = .ok (.invokevirtual 70, 3) := by decide +kernel
theorem dX8_points_10 : decode cX8_points 10 = .ok (.ifCond .eq 7, 3) := by decide +kernel
theorem dX8_points_13 : decode cX8_points 13 = .ok (.lconst 0, 1) := by decide +kernel
theorem dX8_points_14 : decode cX8_points 14 = .ok (.goto 8, 3) := by decide +kernel
theorem dX8_points_22 : decode cX8_points 22 = .ok (.lreturn, 1) := by decide +kernel
theorem dX8_promote_0 : decode cX8_promote 0 = .ok (.aload_n 0, 1) := by decide +kernel
theorem dX8_promote_1 : decode cX8_promote 1 = .ok (.aload_n 0, 1) := by decide +kernel
theorem dX8_promote_2 : decode cX8_promote 2 = .ok (.iload_n 1, 1) := by decide +kernel
theorem dX8_promote_3 : decode cX8_promote 3 = .ok (.invokevirtual 34, 3) := by decide +kernel
theorem dX8_promote_6 : decode cX8_promote 6 = .ok (.iconst 1, 1) := by decide +kernel
theorem dX8_promote_7 : decode cX8_promote 7 = .ok (.invokevirtual 70, 3) := by decide +kernel
theorem dX8_promote_10 : decode cX8_promote 10 = .ok (.ifCond .ne 51, 3) := by decide +kernel
theorem dX8_promote_61 : decode cX8_promote 61 = .ok (.iconst 0, 1) := by decide +kernel
theorem dX8_promote_62 : decode cX8_promote 62 = .ok (.ireturn, 1) := by decide +kernel
theorem dX8_reasons_0 : decode cX8_reasons 0 = .ok (.aload_n 0, 1) := by decide +kernel
theorem dX8_reasons_1 : decode cX8_reasons 1 = .ok (.aload_n 0, 1) := by decide +kernel
theorem dX8_reasons_2 : decode cX8_reasons 2 = .ok (.iload_n 1, 1) := by decide +kernel
theorem dX8_reasons_3 : decode cX8_reasons 3 = .ok (.invokevirtual 34, 3) := by decide +kernel
theorem dX8_reasons_6 : decode cX8_reasons 6 = .ok (.iconst 1, 1) := by decide +kernel
theorem dX8_reasons_7 : decode cX8_reasons 7 = .ok (.invokevirtual 70, 3) := by decide +kernel
theorem dX8_reasons_10 : decode cX8_reasons 10 = .ok (.ifCond .ne 33, 3) := by decide +kernel
theorem dX8_reasons_43 : decode cX8_reasons 43 = .ok (.iconst 0, 1) := by decide +kernel
theorem dX8_reasons_44 : decode cX8_reasons 44 = .ok (.goto 14, 3) := by decide +kernel
theorem dX8_reasons_58 : decode cX8_reasons 58 = .ok (.ireturn, 1) := by decide +kernel
theorem dX8_redeem_0 : decode cX8_redeem 0 = .ok (.aload_n 0, 1) := by decide +kernel
theorem dX8_redeem_1 : decode cX8_redeem 1 = .ok (.aload_n 0, 1) := by decide +kernel
theorem dX8_redeem_2 : decode cX8_redeem 2 = .ok (.iload_n 1, 1) := by decide +kernel
theorem dX8_redeem_3 : decode cX8_redeem 3 = .ok (.invokevirtual 34, 3) := by decide +kernel
theorem dX8_redeem_6 : decode cX8_redeem 6 = .ok (.iconst 1, 1) := by decide +kernel
theorem dX8_redeem_7 : decode cX8_redeem 7 = .ok (.invokevirtual 70, 3) := by decide +kernel
theorem dX8_redeem_10 : decode cX8_redeem 10 = .ok (.ifCond .ne 55, 3) := by decide +kernel
theorem dX8_redeem_65 : decode cX8_redeem 65 = .ok (.iconst 0, 1) := by decide +kernel
theorem dX8_redeem_66 : decode cX8_redeem 66 = .ok (.ireturn, 1) := by decide +kernel
theorem dX8_returns_0 : decode cX8_returns 0 = .ok (.aload_n 0, 1) := by decide +kernel
theorem dX8_returns_1 : decode cX8_returns 1 = .ok (.aload_n 0, 1) := by decide +kernel
theorem dX8_returns_2 : decode cX8_returns 2 = .ok (.iload_n 1, 1) := by decide +kernel
theorem dX8_returns_3 : decode cX8_returns 3 = .ok (.iload_n 2, 1) := by decide +kernel
theorem dX8_returns_4 : decode cX8_returns 4 = .ok (.invokevirtual 134, 3) := by decide +kernel
theorem dX8_returns_7 : decode cX8_returns 7 = .ok (.iconst 1, 1) := by decide +kernel
theorem dX8_returns_8 : decode cX8_returns 8 = .ok (.invokevirtual 70, 3) := by decide +kernel
theorem dX8_returns_11 : decode cX8_returns 11 = .ok (.ifCond .ne 55, 3) := by decide +kernel
theorem dX8_returns_66 : decode cX8_returns 66 = .ok (.iconst 0, 1) := by decide +kernel
theorem dX8_returns_67 : decode cX8_returns 67 = .ok (.ireturn, 1) := by decide +kernel
theorem dX8_reverse_0 : decode cX8_reverse 0 = .ok (.aload_n 0, 1) := by decide +kernel
theorem dX8_reverse_1 : decode cX8_reverse 1 = .ok (.aload_n 0, 1) := by decide +kernel
theorem dX8_reverse_2 : decode cX8_reverse 2 = .ok (.iload_n 1, 1) := by decide +kernel
theorem dX8_reverse_3 : decode cX8_reverse 3 = .ok (.iload_n 2, 1) := by decide +kernel
theorem dX8_reverse_4 : decode cX8_reverse 4 = .ok (.invokevirtual 134, 3) := by decide +kernel
theorem dX8_reverse_7 : decode cX8_reverse 7 = .ok (.iconst 1, 1) := by decide +kernel
theorem dX8_reverse_8 : decode cX8_reverse 8 = .ok (.invokevirtual 70, 3) := by decide +kernel
theorem dX8_reverse_11 : decode cX8_reverse 11 = .ok (.ifCond .eq 5, 3) := by decide +kernel
theorem dX8_reverse_14 : decode cX8_reverse 14 = .ok (.lconst 0, 1) := by decide +kernel
theorem dX8_reverse_15 : decode cX8_reverse 15 = .ok (.lreturn, 1) := by decide +kernel
theorem dX8_setCurrency_0 : decode cX8_setCurrency 0 = .ok (.aload_n 0, 1) := by decide +kernel
theorem dX8_setCurrency_1 : decode cX8_setCurrency 1 = .ok (.iload_n 1, 1) := by decide +kernel
theorem dX8_setCurrency_2 : decode cX8_setCurrency 2 = .ok (.iconst 0, 1) := by decide +kernel
theorem dX8_setCurrency_3 : decode cX8_setCurrency 3 = .ok (.iconst 3, 1) := by decide +kernel
theorem dX8_setCurrency_4 : decode cX8_setCurrency 4 = .ok (.invokestatic 30, 3) := by decide +kernel
theorem dX8_setCurrency_7 : decode cX8_setCurrency 7 = .ok (.ifCond .eq 17, 3) := by decide +kernel
theorem dX8_setCurrency_10 : decode cX8_setCurrency 10 = .ok (.iload_n 2, 1) := by decide +kernel
theorem dX8_setCurrency_11 : decode cX8_setCurrency 11 = .ok (.iconst 1, 1) := by decide +kernel
theorem dX8_setCurrency_12 : decode cX8_setCurrency 12 = .ok (.ldc 95, 2) := by decide +kernel
theorem dX8_setCurrency_14 : decode cX8_setCurrency 14 = .ok (.invokestatic 30, 3) := by decide +kernel
theorem dX8_setCurrency_17 : decode cX8_setCurrency 17 = .ok (.ifCond .eq 7, 3) := by decide +kernel
theorem dX8_setCurrency_20 : decode cX8_setCurrency 20 = .ok (.iconst 1, 1) := by decide +kernel
theorem dX8_setCurrency_21 : decode cX8_setCurrency 21 = .ok (.goto 4, 3) := by decide +kernel
theorem dX8_setCurrency_24 : decode cX8_setCurrency 24 = .ok (.iconst 0, 1) := by decide +kernel
theorem dX8_setCurrency_25 : decode cX8_setCurrency 25 = .ok (.iconst 1, 1) := by decide +kernel
theorem dX8_setCurrency_26 : decode cX8_setCurrency 26 = .ok (.invokevirtual 70, 3) := by decide +kernel
theorem dX8_setCurrency_29 : decode cX8_setCurrency 29 = .ok (.ifCond .eq 5, 3) := by decide +kernel
theorem dX8_setCurrency_32 : decode cX8_setCurrency 32 = .ok (.iconst 0, 1) := by decide +kernel
theorem dX8_setCurrency_33 : decode cX8_setCurrency 33 = .ok (.ireturn, 1) := by decide +kernel
theorem dX8_setCurrency_34 : decode cX8_setCurrency 34 = .ok (.aload_n 0, 1) := by decide +kernel
theorem dX8_setCurrency_35 : decode cX8_setCurrency 35 = .ok (.getfield 16, 3) := by decide +kernel
theorem dX8_setCurrency_38 : decode cX8_setCurrency 38 = .ok (.iload_n 1, 1) := by decide +kernel
theorem dX8_setCurrency_39 : decode cX8_setCurrency 39 = .ok (.iaload, 1) := by decide +kernel
theorem dX8_setCurrency_40 : decode cX8_setCurrency 40 = .ok (.istore_n 3, 1) := by decide +kernel
theorem dX8_setCurrency_41 : decode cX8_setCurrency 41 = .ok (.aload_n 0, 1) := by decide +kernel
theorem dX8_setCurrency_42 : decode cX8_setCurrency 42 = .ok (.getfield 16, 3) := by decide +kernel
theorem dX8_setCurrency_45 : decode cX8_setCurrency 45 = .ok (.iload_n 1, 1) := by decide +kernel
theorem dX8_setCurrency_46 : decode cX8_setCurrency 46 = .ok (.iload_n 2, 1) := by decide +kernel
theorem dX8_setCurrency_47 : decode cX8_setCurrency 47 = .ok (.iastore, 1) := by decide +kernel
theorem dX8_setCurrency_48 : decode cX8_setCurrency 48 = .ok (.iload_n 3, 1) := by decide +kernel
theorem dX8_setCurrency_49 : decode cX8_setCurrency 49 = .ok (.ireturn, 1) := by decide +kernel
theorem dX8_setLimit_0 : decode cX8_setLimit 0 = .ok (.aload_n 0, 1) := by decide +kernel
theorem dX8_setLimit_1 : decode cX8_setLimit 1 = .ok (.aload_n 0, 1) := by decide +kernel
theorem dX8_setLimit_2 : decode cX8_setLimit 2 = .ok (.iload_n 1, 1) := by decide +kernel
theorem dX8_setLimit_3 : decode cX8_setLimit 3 = .ok (.invokevirtual 34, 3) := by decide +kernel
theorem dX8_setLimit_6 : decode cX8_setLimit 6 = .ok (.iconst 1, 1) := by decide +kernel
theorem dX8_setLimit_7 : decode cX8_setLimit 7 = .ok (.invokevirtual 70, 3) := by decide +kernel
theorem dX8_setLimit_10 : decode cX8_setLimit 10 = .ok (.ifCond .ne 18, 3) := by decide +kernel
theorem dX8_setLimit_28 : decode cX8_setLimit 28 = .ok (.iconst 0, 1) := by decide +kernel
theorem dX8_setLimit_29 : decode cX8_setLimit 29 = .ok (.ireturn, 1) := by decide +kernel
theorem dX8_setRate_0 : decode cX8_setRate 0 = .ok (.aload_n 0, 1) := by decide +kernel
theorem dX8_setRate_1 : decode cX8_setRate 1 = .ok (.aload_n 0, 1) := by decide +kernel
theorem dX8_setRate_2 : decode cX8_setRate 2 = .ok (.iload_n 1, 1) := by decide +kernel
theorem dX8_setRate_3 : decode cX8_setRate 3 = .ok (.invokevirtual 34, 3) := by decide +kernel
theorem dX8_setRate_6 : decode cX8_setRate 6 = .ok (.iconst 1, 1) := by decide +kernel
theorem dX8_setRate_7 : decode cX8_setRate 7 = .ok (.invokevirtual 70, 3) := by decide +kernel
theorem dX8_setRate_10 : decode cX8_setRate 10 = .ok (.ifCond .ne 47, 3) := by decide +kernel
theorem dX8_setRate_57 : decode cX8_setRate 57 = .ok (.iconst 0, 1) := by decide +kernel
theorem dX8_setRate_58 : decode cX8_setRate 58 = .ok (.ireturn, 1) := by decide +kernel
theorem dX8_settle_0 : decode cX8_settle 0 = .ok (.aload_n 0, 1) := by decide +kernel
theorem dX8_settle_1 : decode cX8_settle 1 = .ok (.aload_n 0, 1) := by decide +kernel
theorem dX8_settle_2 : decode cX8_settle 2 = .ok (.iload_n 1, 1) := by decide +kernel
theorem dX8_settle_3 : decode cX8_settle 3 = .ok (.iload_n 2, 1) := by decide +kernel
theorem dX8_settle_4 : decode cX8_settle 4 = .ok (.invokevirtual 134, 3) := by decide +kernel
theorem dX8_settle_7 : decode cX8_settle 7 = .ok (.iconst 1, 1) := by decide +kernel
theorem dX8_settle_8 : decode cX8_settle 8 = .ok (.invokevirtual 70, 3) := by decide +kernel
theorem dX8_settle_11 : decode cX8_settle 11 = .ok (.ifCond .ne 20, 3) := by decide +kernel
theorem dX8_settle_31 : decode cX8_settle 31 = .ok (.lconst 0, 1) := by decide +kernel
theorem dX8_settle_32 : decode cX8_settle 32 = .ok (.lreturn, 1) := by decide +kernel
theorem dX8_statement_0 : decode cX8_statement 0 = .ok (.aload_n 0, 1) := by decide +kernel
theorem dX8_statement_1 : decode cX8_statement 1 = .ok (.aload_n 0, 1) := by decide +kernel
theorem dX8_statement_2 : decode cX8_statement 2 = .ok (.iload_n 1, 1) := by decide +kernel
theorem dX8_statement_3 : decode cX8_statement 3 = .ok (.invokevirtual 34, 3) := by decide +kernel
theorem dX8_statement_6 : decode cX8_statement 6 = .ok (.iconst 1, 1) := by decide +kernel
theorem dX8_statement_7 : decode cX8_statement 7 = .ok (.invokevirtual 70, 3) := by decide +kernel
theorem dX8_statement_10 : decode cX8_statement 10 = .ok (.ifCond .ne 16, 3) := by decide +kernel
theorem dX8_statement_26 : decode cX8_statement 26 = .ok (.lconst 0, 1) := by decide +kernel
theorem dX8_statement_27 : decode cX8_statement 27 = .ok (.goto 13, 3) := by decide +kernel
theorem dX8_statement_40 : decode cX8_statement 40 = .ok (.lreturn, 1) := by decide +kernel
theorem dX8_sum_0 : decode cX8_sum 0 = .ok (.aload_n 0, 1) := by decide +kernel
theorem dX8_sum_1 : decode cX8_sum 1 = .ok (.aload_n 0, 1) := by decide +kernel
theorem dX8_sum_2 : decode cX8_sum 2 = .ok (.iload_n 1, 1) := by decide +kernel
theorem dX8_sum_3 : decode cX8_sum 3 = .ok (.iload_n 2, 1) := by decide +kernel
theorem dX8_sum_4 : decode cX8_sum 4 = .ok (.invokevirtual 134, 3) := by decide +kernel
theorem dX8_sum_7 : decode cX8_sum 7 = .ok (.iconst 1, 1) := by decide +kernel
theorem dX8_sum_8 : decode cX8_sum 8 = .ok (.invokevirtual 70, 3) := by decide +kernel
theorem dX8_sum_11 : decode cX8_sum 11 = .ok (.ifCond .eq 7, 3) := by decide +kernel
theorem dX8_sum_14 : decode cX8_sum 14 = .ok (.iconst 0, 1) := by decide +kernel
theorem dX8_sum_15 : decode cX8_sum 15 = .ok (.goto 12, 3) := by decide +kernel
theorem dX8_sum_27 : decode cX8_sum 27 = .ok (.ireturn, 1) := by decide +kernel
theorem dX8_thrown_0 : decode cX8_thrown 0 = .ok (.aload_n 0, 1) := by decide +kernel
theorem dX8_thrown_1 : decode cX8_thrown 1 = .ok (.getfield 20, 3) := by decide +kernel
theorem dX8_thrown_4 : decode cX8_thrown 4 = .ok (.ireturn, 1) := by decide +kernel
theorem dX8_today_0 : decode cX8_today 0 = .ok (.aload_n 0, 1) := by decide +kernel
theorem dX8_today_1 : decode cX8_today 1 = .ok (.getfield 57, 3) := by decide +kernel
theorem dX8_today_4 : decode cX8_today 4 = .ok (.ireturn, 1) := by decide +kernel
theorem dX8_told_0 : decode cX8_told 0 = .ok (.aload_n 0, 1) := by decide +kernel
theorem dX8_told_1 : decode cX8_told 1 = .ok (.aload_n 0, 1) := by decide +kernel
theorem dX8_told_2 : decode cX8_told 2 = .ok (.iload_n 1, 1) := by decide +kernel
theorem dX8_told_3 : decode cX8_told 3 = .ok (.invokevirtual 34, 3) := by decide +kernel
theorem dX8_told_6 : decode cX8_told 6 = .ok (.iconst 1, 1) := by decide +kernel
theorem dX8_told_7 : decode cX8_told 7 = .ok (.invokevirtual 70, 3) := by decide +kernel
theorem dX8_told_10 : decode cX8_told 10 = .ok (.ifCond .ne 17, 3) := by decide +kernel
theorem dX8_told_27 : decode cX8_told 27 = .ok (.lconst 0, 1) := by decide +kernel
theorem dX8_told_28 : decode cX8_told 28 = .ok (.goto 24, 3) := by decide +kernel
theorem dX8_told_52 : decode cX8_told 52 = .ok (.lreturn, 1) := by decide +kernel
theorem dX8_why_0 : decode cX8_why 0 = .ok (.aload_n 0, 1) := by decide +kernel
theorem dX8_why_1 : decode cX8_why 1 = .ok (.aload_n 0, 1) := by decide +kernel
theorem dX8_why_2 : decode cX8_why 2 = .ok (.iload_n 1, 1) := by decide +kernel
theorem dX8_why_3 : decode cX8_why 3 = .ok (.invokevirtual 34, 3) := by decide +kernel
theorem dX8_why_6 : decode cX8_why 6 = .ok (.iconst 1, 1) := by decide +kernel
theorem dX8_why_7 : decode cX8_why 7 = .ok (.invokevirtual 70, 3) := by decide +kernel
theorem dX8_why_10 : decode cX8_why 10 = .ok (.ifCond .ne 33, 3) := by decide +kernel
theorem dX8_why_43 : decode cX8_why 43 = .ok (.bipush 45, 2) := by decide +kernel
theorem dX8_why_45 : decode cX8_why 45 = .ok (.ireturn, 1) := by decide +kernel
abbrev zc : List vw_C := [(RJx4a65c, TJx4a65c, 3), (RJx35411, TJx35411, 4), (RX0, TX0, 9), (RX1, TX1, 17), (RX3, TX3, 5), (RX4, TX4, 4), (RX5, TX5, 4), (RX8, TX8, 4)]
/-! what every contract here is written in: one list of words, one shape of start -/
def zG : List Cond := lw_tbl.filter goodWord
theorem zg_mem {w : Cond} (i : Nat) (h : lw_tbl[i]? = some w) (hg : goodWord w = true) : w ∈ zG := List.mem_filter.mpr ⟨List.mem_of_getElem? h, hg⟩
theorem zg_tbl {w : Cond} (h : w ∈ zG) : w ∈ lw_tbl := (List.mem_filter.mp h).1
theorem zg_good {w : Cond} (h : w ∈ zG) : goodWord w = true := (List.mem_filter.mp h).2
theorem zg_in {ws : List Cond} (h : ∀ w ∈ ws, w ∈ zG) : GoodIn zG ws := fun w hw => ⟨h w hw, good_of_word (zg_good (h w hw))⟩
theorem zg_cons {w0 : Cond} (h : w0 ∈ zG) : ∀ w ∈ w0 :: zG, w ∈ zG := fun w hw => (List.mem_cons.mp hw).elim (fun e => e ▸ h) id
theorem zg_c {w0 : Cond} (h : w0 ∈ zG) : GoodIn zG (w0 :: zG) := zg_in (zg_cons h)
theorem zg_app {w0 : Cond} {pre : List Cond} (h : w0 ∈ zG) (hp : ∀ w ∈ pre, w ∈ zG) : GoodIn zG (pre ++ w0 :: zG) := zg_in (fun w hw => (List.mem_append.mp hw).elim (hp w) (zg_cons h w))
theorem zg_l2 {a b : Cond} (ha : a ∈ zG) (hb : b ∈ zG) : ∀ w ∈ [a, b], w ∈ zG := List.forall_mem_cons.mpr ⟨ha, List.forall_mem_cons.mpr ⟨hb, fun _ h => absurd h List.not_mem_nil⟩⟩
theorem zg_l3 {a b c : Cond} (ha : a ∈ zG) (hb : b ∈ zG) (hc : c ∈ zG) : ∀ w ∈ [a, b, c], w ∈ zG := List.forall_mem_cons.mpr ⟨ha, zg_l2 hb hc⟩
theorem zg_l4 {a b c d : Cond} (ha : a ∈ zG) (hb : b ∈ zG) (hc : c ∈ zG) (hd : d ∈ zG) : ∀ w ∈ [a, b, c, d], w ∈ zG := List.forall_mem_cons.mpr ⟨ha, zg_l3 hb hc hd⟩
theorem zg_V {own C : String} {idx : Nat} {y : MethodName} {w0 : Cond} (h1 : Cond.methodLink own idx y ∈ zG) (h2 : Cond.instanceMethod y ∈ zG) (h3 : Cond.selects C y y ∈ zG) (h4 : Cond.initialized C ∈ zG) (h : w0 ∈ zG) : GoodIn zG (wsV own idx C y (w0 :: zG)) := zg_app h (zg_l4 h1 h2 h3 h4)
theorem zg_S {own : String} {idx : Nat} {y : MethodName} {w0 : Cond} (h1 : Cond.methodLink own idx y ∈ zG) (h2 : Cond.static y ∈ zG) (h3 : Cond.initialized y.cls ∈ zG) (h : w0 ∈ zG) : GoodIn zG (va_wsS own idx y (w0 :: zG)) := zg_app h (zg_l3 h1 h2 h3)
theorem zg_F {own C : String} {idx : Nat} {x y : MethodName} {w0 : Cond} (h1 : Cond.methodLink own idx x ∈ zG) (h2 : Cond.selects C x y ∈ zG) (h3 : Cond.instanceMethod y ∈ zG) (h4 : Cond.initialized y.cls ∈ zG) (h : w0 ∈ zG) : GoodIn zG (va_wsF own idx C x y (w0 :: zG)) := zg_app h (zg_l4 h1 h2 h3 h4)
/-- the tables' words that aren't kept by a list: of nest mates, interfaces, arrays, casts -/
def zN : List Cond := lw_tbl.filter (fun w => w.onTables)
def zT (U : State) : Prop := va_Nw (.methodLinkNest RX4 22 yX1_init RX4) U ∧ va_Nw (.methodLinkNest RX4 45 yX0_init RX4) U ∧ va_Nw (.methodLinkNest RX0 37 yX1_init RX4) U ∧ va_Nw (.methodLinkNest RX1 31 yX3_init RX4) U ∧ va_Nw (.methodLinkNest RX8 74 yX5_init RX8) U ∧ va_Fw RJx4a65c ⟨"java/util/List", "size", "()I"⟩ yJx4a65c_size_8abf5 U ∧ va_Fw RJx4a65c ⟨"java/util/List", "get", "(I)Ljava/lang/Object;"⟩ yJx4a65c_get_915e3 U ∧ va_Fw RJx4a65c ⟨"java/util/List", "add", "(Ljava/lang/Object;)Z"⟩ yJx4a65c_add_9ea2d U ∧ va_Fw RJx4a65c ⟨"java/util/List", "isEmpty", "()Z"⟩ yJx4a65c_isEmpty_aae02 U ∧ va_Fw RJx4a65c ⟨"java/util/List", "iterator", "()Ljava/util/Iterator;"⟩ yJx4a65c_iterator_32c93 U ∧ va_Fw RJx35411 ⟨"java/util/Iterator", "hasNext", "()Z"⟩ yJx35411_hasNext_aae02 U ∧ va_Nw (.fieldLinkNest RJx35411 28 "java/util/ArrayList" "size" "I" "java/util/ArrayList") U ∧ va_AO "StatementCycle$Statement" U ∧ va_AO "java/lang/Object" U ∧ va_AO "java/lang/Long" U ∧ va_Nw (.castable RX0 "java/lang/Object") U ∧ va_Nw (.castable RX5 "java/lang/Object") U ∧ va_Nw (.castable "java/lang/IndexOutOfBoundsException" "java/lang/IndexOutOfBoundsException") U ∧ va_Nw (.castable "java/lang/IllegalArgumentException" "java/lang/IllegalArgumentException") U ∧ va_Nw (.castable "java/lang/ArithmeticException" "java/lang/ArithmeticException") U ∧ va_Nw (.declares ⟨"java/lang/RuntimeException", "<init>", "()V"⟩) U ∧ va_Nw (.declares ⟨"java/lang/Exception", "<init>", "()V"⟩) U ∧ va_Nw (.declares ⟨"java/lang/Throwable", "<init>", "()V"⟩) U
theorem zT_nX4_22 {U : State} (h : zT U) : va_Nw (.methodLinkNest RX4 22 yX1_init RX4) U := h.1
theorem zT_nX4_45 {U : State} (h : zT U) : va_Nw (.methodLinkNest RX4 45 yX0_init RX4) U := h.2.1
theorem zT_nX0_37 {U : State} (h : zT U) : va_Nw (.methodLinkNest RX0 37 yX1_init RX4) U := h.2.2.1
theorem zT_nX1_31 {U : State} (h : zT U) : va_Nw (.methodLinkNest RX1 31 yX3_init RX4) U := h.2.2.2.1
theorem zT_nX8_74 {U : State} (h : zT U) : va_Nw (.methodLinkNest RX8 74 yX5_init RX8) U := h.2.2.2.2.1
theorem zT_fsize {U : State} (h : zT U) : va_Fw RJx4a65c ⟨"java/util/List", "size", "()I"⟩ yJx4a65c_size_8abf5 U := h.2.2.2.2.2.1
theorem zT_fget {U : State} (h : zT U) : va_Fw RJx4a65c ⟨"java/util/List", "get", "(I)Ljava/lang/Object;"⟩ yJx4a65c_get_915e3 U := h.2.2.2.2.2.2.1
theorem zT_fadd {U : State} (h : zT U) : va_Fw RJx4a65c ⟨"java/util/List", "add", "(Ljava/lang/Object;)Z"⟩ yJx4a65c_add_9ea2d U := h.2.2.2.2.2.2.2.1
theorem zT_fisEmpty {U : State} (h : zT U) : va_Fw RJx4a65c ⟨"java/util/List", "isEmpty", "()Z"⟩ yJx4a65c_isEmpty_aae02 U := h.2.2.2.2.2.2.2.2.1
theorem zT_fiterator {U : State} (h : zT U) : va_Fw RJx4a65c ⟨"java/util/List", "iterator", "()Ljava/util/Iterator;"⟩ yJx4a65c_iterator_32c93 U := h.2.2.2.2.2.2.2.2.2.1
theorem zT_fhasNext {U : State} (h : zT U) : va_Fw RJx35411 ⟨"java/util/Iterator", "hasNext", "()Z"⟩ yJx35411_hasNext_aae02 U := h.2.2.2.2.2.2.2.2.2.2.1
theorem zT_fn28 {U : State} (h : zT U) : va_Nw (.fieldLinkNest RJx35411 28 "java/util/ArrayList" "size" "I" "java/util/ArrayList") U := h.2.2.2.2.2.2.2.2.2.2.2.1
theorem zT_aoS {U : State} (h : zT U) : va_AO "StatementCycle$Statement" U := h.2.2.2.2.2.2.2.2.2.2.2.2.1
theorem zT_aoO {U : State} (h : zT U) : va_AO "java/lang/Object" U := h.2.2.2.2.2.2.2.2.2.2.2.2.2.1
theorem zT_aoL {U : State} (h : zT U) : va_AO "java/lang/Long" U := h.2.2.2.2.2.2.2.2.2.2.2.2.2.2.1
theorem zT_caX0 {U : State} (h : zT U) : va_Nw (.castable RX0 "java/lang/Object") U := h.2.2.2.2.2.2.2.2.2.2.2.2.2.2.2.1
theorem zT_caX5 {U : State} (h : zT U) : va_Nw (.castable RX5 "java/lang/Object") U := h.2.2.2.2.2.2.2.2.2.2.2.2.2.2.2.2.1
theorem zT_kI {U : State} (h : zT U) : va_Nw (.castable "java/lang/IndexOutOfBoundsException" "java/lang/IndexOutOfBoundsException") U := h.2.2.2.2.2.2.2.2.2.2.2.2.2.2.2.2.2.1
theorem zT_kA {U : State} (h : zT U) : va_Nw (.castable "java/lang/IllegalArgumentException" "java/lang/IllegalArgumentException") U := h.2.2.2.2.2.2.2.2.2.2.2.2.2.2.2.2.2.2.1
theorem zT_kR {U : State} (h : zT U) : va_Nw (.castable "java/lang/ArithmeticException" "java/lang/ArithmeticException") U := h.2.2.2.2.2.2.2.2.2.2.2.2.2.2.2.2.2.2.2.1
theorem zT_dR {U : State} (h : zT U) : va_Nw (.declares ⟨"java/lang/RuntimeException", "<init>", "()V"⟩) U := h.2.2.2.2.2.2.2.2.2.2.2.2.2.2.2.2.2.2.2.2.1
theorem zT_dE {U : State} (h : zT U) : va_Nw (.declares ⟨"java/lang/Exception", "<init>", "()V"⟩) U := h.2.2.2.2.2.2.2.2.2.2.2.2.2.2.2.2.2.2.2.2.2.1
theorem zT_dT {U : State} (h : zT U) : va_Nw (.declares ⟨"java/lang/Throwable", "<init>", "()V"⟩) U := h.2.2.2.2.2.2.2.2.2.2.2.2.2.2.2.2.2.2.2.2.2.2
theorem zT_moved {s U : State} (hW : s.WarmedH U.vm) (h : zT s) : zT U := ⟨va_Nw.warmM hW (zT_nX4_22 h), va_Nw.warmM hW (zT_nX4_45 h), va_Nw.warmM hW (zT_nX0_37 h), va_Nw.warmM hW (zT_nX1_31 h), va_Nw.warmM hW (zT_nX8_74 h), va_Fw.moved ⟨by decide +kernel, by decide +kernel⟩ hW.alike (zT_fsize h), va_Fw.moved ⟨by decide +kernel, by decide +kernel⟩ hW.alike (zT_fget h), va_Fw.moved ⟨by decide +kernel, by decide +kernel⟩ hW.alike (zT_fadd h), va_Fw.moved ⟨by decide +kernel, by decide +kernel⟩ hW.alike (zT_fisEmpty h), va_Fw.moved ⟨by decide +kernel, by decide +kernel⟩ hW.alike (zT_fiterator h), va_Fw.moved ⟨by decide +kernel, by decide +kernel⟩ hW.alike (zT_fhasNext h), va_Nw.warmF hW (zT_fn28 h), va_AO.moved hW.alike (zT_aoS h), va_AO.moved hW.alike (zT_aoO h), va_AO.moved hW.alike (zT_aoL h), va_Nw.warmC hW (zT_caX0 h), va_Nw.warmC hW (zT_caX5 h), va_Nw.warmC hW (zT_kI h), va_Nw.warmC hW (zT_kA h), va_Nw.warmC hW (zT_kR h), va_Nw.warmD hW (zT_dR h), va_Nw.warmD hW (zT_dE h), va_Nw.warmD hW (zT_dT h)⟩
def zK (X : String) : List Cond := [.castable X X, .declares ⟨"java/lang/RuntimeException", "<init>", "()V"⟩, .declares ⟨"java/lang/Exception", "<init>", "()V"⟩, .declares ⟨"java/lang/Throwable", "<init>", "()V"⟩]
theorem zK_all {X : String} {A : Array Value} {U : State} (hc : va_Nw (.castable X X) U) (h : zT U) : ∀ w ∈ zK X, w.before A U = true := List.forall_mem_cons.mpr ⟨va_Nw.use rfl hc, List.forall_mem_cons.mpr ⟨va_Nw.use rfl (zT_dR h), List.forall_mem_cons.mpr ⟨va_Nw.use rfl (zT_dE h), List.forall_mem_cons.mpr ⟨va_Nw.use rfl (zT_dT h), fun _ h => absurd h List.not_mem_nil⟩⟩⟩⟩
theorem zK_hat {L : List Cond} {X : String} {A : Array Value} {U : State} (hL : ∀ w ∈ L, (w ∈ zG ∨ w ∈ zK X) ∧ vx_ot w = true) (hts : ∀ w ∈ zG, w.before A U = true) (hc : va_Nw (.castable X X) U) (h : zT U) : ∀ w ∈ L, w.before A U = true := fun w hw => (hL w hw).1.elim (hts w) (zK_all hc h w)
theorem zT_made {s : State} {A : Array Value} (h : ∀ w ∈ lw_tbl, w.before A s = true) : zT s :=
  ⟨va_Nw.of rfl (h _ (List.mem_of_getElem? (i := 142) (by decide +kernel))),
   va_Nw.of rfl (h _ (List.mem_of_getElem? (i := 518) (by decide +kernel))),
   va_Nw.of rfl (h _ (List.mem_of_getElem? (i := 525) (by decide +kernel))),
   va_Nw.of rfl (h _ (List.mem_of_getElem? (i := 149) (by decide +kernel))),
   va_Nw.of rfl (h _ (List.mem_of_getElem? (i := 1391) (by decide +kernel))),
   va_Fw.of (h _ (List.mem_of_getElem? (i := 1384) (by decide +kernel))) (h _ (List.mem_of_getElem? (i := 1383) (by decide +kernel))) (h _ (List.mem_of_getElem? (i := 1388) (by decide +kernel))) (h _ (List.mem_of_getElem? (i := 1387) (by decide +kernel))) (h _ (List.mem_of_getElem? (i := 1385) (by decide +kernel))),
   va_Fw.of (h _ (List.mem_of_getElem? (i := 1424) (by decide +kernel))) (h _ (List.mem_of_getElem? (i := 1423) (by decide +kernel))) (h _ (List.mem_of_getElem? (i := 1427) (by decide +kernel))) (h _ (List.mem_of_getElem? (i := 1426) (by decide +kernel))) (h _ (List.mem_of_getElem? (i := 1385) (by decide +kernel))),
   va_Fw.of (h _ (List.mem_of_getElem? (i := 1417) (by decide +kernel))) (h _ (List.mem_of_getElem? (i := 1416) (by decide +kernel))) (h _ (List.mem_of_getElem? (i := 1420) (by decide +kernel))) (h _ (List.mem_of_getElem? (i := 1419) (by decide +kernel))) (h _ (List.mem_of_getElem? (i := 1385) (by decide +kernel))),
   va_Fw.of (h _ (List.mem_of_getElem? (i := 2010) (by decide +kernel))) (h _ (List.mem_of_getElem? (i := 2009) (by decide +kernel))) (h _ (List.mem_of_getElem? (i := 2014) (by decide +kernel))) (h _ (List.mem_of_getElem? (i := 2012) (by decide +kernel))) (h _ (List.mem_of_getElem? (i := 1385) (by decide +kernel))),
   va_Fw.of (h _ (List.mem_of_getElem? (i := 1587) (by decide +kernel))) (h _ (List.mem_of_getElem? (i := 1586) (by decide +kernel))) (h _ (List.mem_of_getElem? (i := 1591) (by decide +kernel))) (h _ (List.mem_of_getElem? (i := 1589) (by decide +kernel))) (h _ (List.mem_of_getElem? (i := 1385) (by decide +kernel))),
   va_Fw.of (h _ (List.mem_of_getElem? (i := 1616) (by decide +kernel))) (h _ (List.mem_of_getElem? (i := 1615) (by decide +kernel))) (h _ (List.mem_of_getElem? (i := 1621) (by decide +kernel))) (h _ (List.mem_of_getElem? (i := 1619) (by decide +kernel))) (h _ (List.mem_of_getElem? (i := 1617) (by decide +kernel))),
   va_Nw.of rfl (h _ (List.mem_of_getElem? (i := 127) (by decide +kernel))),
   va_AO.of (h _ (List.mem_of_getElem? (i := 147) (by decide +kernel))),
   va_AO.of (h _ (List.mem_of_getElem? (i := 618) (by decide +kernel))),
   va_AO.of (h _ (List.mem_of_getElem? (i := 1398) (by decide +kernel))),
   va_Nw.of rfl (h _ (List.mem_of_getElem? (i := 2039) (by decide +kernel))),
   va_Nw.of rfl (h _ (List.mem_of_getElem? (i := 2040) (by decide +kernel))),
   va_Nw.of rfl (h _ (List.mem_of_getElem? (i := 674) (by decide +kernel))),
   va_Nw.of rfl (h _ (List.mem_of_getElem? (i := 437) (by decide +kernel))),
   va_Nw.of rfl (h _ (List.mem_of_getElem? (i := 1326) (by decide +kernel))),
   va_Nw.of rfl (h _ (List.mem_of_getElem? (i := 438) (by decide +kernel))),
   va_Nw.of rfl (h _ (List.mem_of_getElem? (i := 440) (by decide +kernel))),
   va_Nw.of rfl (h _ (List.mem_of_getElem? (i := 442) (by decide +kernel)))⟩
def zS1 (A : Nat → Prop) (U : State) (H : Heap) : Prop := vx_Zq Bundle.tN "UNASSIGNED_STACK" Bundle.steD A U H
def zS2 (A : Nat → Prop) (U : State) (H : Heap) : Prop := vx_Zq Bundle.tN "SUPPRESSED_SENTINEL" Bundle.listD A U H
def zS3 (t : Nat) (A : Nat → Prop) (U : State) (H : Heap) : Prop := va_Z "java/util/ArrayList" "DEFAULTCAPACITY_EMPTY_ELEMENTDATA" "[Ljava/lang/Object;" (.ref t) A U H
def zS4 (t : Nat) (A : Nat → Prop) (U : State) (H : Heap) : Prop := va_T (.object "java/lang/Object") t 0 (fun _ => .null) A U H
def zZ (t : Nat) (A : Nat → Prop) (U : State) (H : Heap) : Prop := zS1 A U H ∧ zS2 A U H ∧ zS3 t A U H ∧ zS4 t A U H
theorem zZ_kept {t : Nat} {A : Nat → Prop} {U : State} {H H1 : Heap} (h : zZ t A U H) (hq : ∀ a : Nat, a < H.size → ¬ A a → H1[a]? = H[a]?) : zZ t A U H1 := ⟨vx_Zq.kept h.1 hq, vx_Zq.kept h.2.1 hq, va_Z.kept h.2.2.1 hq, va_T.kept h.2.2.2 hq⟩
theorem zZ_narrow {t : Nat} {A B : Nat → Prop} {U : State} {H : Heap} (h : zZ t A U H) (hAB : ∀ q, B q → A q) : zZ t B U H := ⟨vx_Zq.narrow h.1 hAB, vx_Zq.narrow h.2.1 hAB, va_Z.narrow h.2.2.1 hAB, va_T.narrow h.2.2.2 hAB⟩
theorem zZ_moved {t : Nat} {A : Nat → Prop} {u U : State} {H : Heap} (hvm : u.vm.Alike U.vm) (h : zZ t A u H) : zZ t A U H := ⟨vx_Zq.moved hvm h.1, vx_Zq.moved hvm h.2.1, va_Z.moved hvm h.2.2.1, va_T.moved hvm h.2.2.2⟩
def zQ (t : Nat) (A : Nat → Prop) (U : State) (H : Heap) : Prop := zT U ∧ zZ t A U H
theorem zQ_moved {t : Nat} {A : Nat → Prop} {u U : State} {H : Heap} (hW : u.WarmedH U.vm) (h : zQ t A u H) : zQ t A U H := ⟨zT_moved hW h.1, zZ_moved hW.alike h.2⟩
theorem zQ_narrow {t : Nat} {A B : Nat → Prop} {U : State} {H : Heap} (h : zQ t A U H) (hAB : ∀ q, B q → A q) : zQ t B U H := ⟨h.1, zZ_narrow h.2 hAB⟩
def zA (dC : Nat → ClassId) (dI : Nat → Nat → Nat) (ws : va_W) (tys : List (ClassId × FieldType)) (sz t : Nat) (av : List Value) : Array Value → State → Prop :=
  va_Pc av (fun U => U.heap.size = sz ∧ va_P (dC, dI) zc ws U.heap ∧ va_K (dC, dI) zc tys U ∧ va_D (fun _ => True) ws ∧ zQ t (va_A ws sz) U U.heap)
def zB (dC : Nat → ClassId) (dI : Nat → Nat → Nat) (A : Nat → Prop) (ws : va_W) (tys : List (ClassId × FieldType)) (t : State) : Prop :=
  va_P (dC, dI) zc ws t.heap ∧ va_K (dC, dI) zc tys t ∧ va_D A ws
theorem zA_blind {dC : Nat → ClassId} {dI : Nat → Nat → Nat} {ws : va_W} {tys : List (ClassId × FieldType)} {sz t : Nat} {av : List Value} : FrameBlind (zA dC dI ws tys sz t av) := fun a U g mk q =>
  ⟨q.1, q.2.1, q.2.2.1, va_K.moved (u := U) (U := U.calling g mk a) (Vm.Alike.refl U.vm) q.2.2.2.1, q.2.2.2.2.1, zQ_moved (u := U) (U := U.calling g mk a) (State.WarmedH.refl U) q.2.2.2.2.2⟩
/-- what a callee wants, out of what the caller holds: the cells by their places -/
theorem zA_pre {s : State} {H : Heap} {locs : List Loc} {A : Nat → Prop} {dC : Nat → ClassId} {dI : Nat → Nat → Nat} {ws wc : va_W} {tys tyc : List (ClassId × FieldType)} {t : Nat} {av : List Value}
    (hP : va_P (dC, dI) zc ws H) (hD : va_D A ws) (hS : va_S A s.heap H locs) (hK : va_K (dC, dI) zc tys s) (hQ : zQ t A s s.heap) (hA : ∀ q, s.heap.size ≤ q → A q)
    (is : List Nat) (h1 : is.filterMap (fun i => ws[i]?) = wc) (h2 : is.map (fun i => ws[i]?) = wc.map some) (hn : va_nd is = true) (ks : List Nat) (h3 : ks.filterMap (fun i => tys[i]?) = tyc) :
    ∀ U : State, U.heap = H → s.WarmedH U.vm → zA dC dI wc tyc H.size t av av.toArray U := fun U hU hW => by
  have hF := va_free hD hS hA is h2
  refine ⟨rfl, by rw [hU], by rw [hU]; exact hP.sub is h1, va_K.moved hW.alike (hK.sub ks h3), (hD.sub is hn h2).weaken (fun _ _ _ _ => trivial), ?_⟩
  rw [hU]
  exact zQ_moved hW ⟨hQ.1, zZ_narrow (zZ_kept hQ.2 hS.2.1) hF⟩
theorem zP_new {dC : Nat → ClassId} {dI : Nat → Nat → Nat} {ws : va_W} {H H1 : Heap} (hP : va_P (dC, dI) zc ws H) (hk : ∀ q : Nat, q < H.size → ¬ H.size ≤ q → H1[q]? = H[q]?) : va_P (dC, dI) zc ws H1 :=
  hP.kept (fun k q h => hk q.1 (vx_lt hP h) (Nat.not_le.mpr (vx_lt hP h)))
theorem zS_F {A : Nat → Prop} {s t : State} {H : Heap} {locs : List Loc} (h : va_S A s.heap H locs) (ht : t.heap = H) : va_F A s t := h.F ht
theorem zl_b {a b : Nat} (h : Nat.ble a b = true) : a ≤ b := Nat.le_of_ble_eq_true h
