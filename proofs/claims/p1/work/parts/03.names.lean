/-! names, fields, decode rows: as printed of the program, those that are walked here -/
def RX0 : String := "StatementCycle$Account"
def TX0 : u_T := fun k => match k with
  | 0 => ("StatementCycle$Account", "events", "Ljava/util/ArrayList;", true)
  | 1 => ("StatementCycle$Account", "byDay", "Ljava/util/ArrayList;", true)
  | 2 => ("StatementCycle$Account", "disputed", "Ljava/util/ArrayList;", true)
  | 3 => ("StatementCycle$Account", "firstCycle", "I", true)
  | 4 => ("StatementCycle$Account", "balancesTold", "[J", true)
  | 5 => ("StatementCycle$Account", "books", "LStatementCycle$Books;", true)
  | 6 => ("StatementCycle$Account", "limit", "I", false)
  | 7 => ("StatementCycle$Account", "isBlocked", "Z", false)
  | _ => ("StatementCycle$Account", "isStale", "Z", false)
def tyX0 : Nat → FieldType := fun k => match k with
  | 0 => .object "java/util/ArrayList"
  | 1 => .object "java/util/ArrayList"
  | 2 => .object "java/util/ArrayList"
  | 3 => .int
  | 4 => .array .long
  | 5 => .object "StatementCycle$Books"
  | 6 => .int
  | 7 => .boolean
  | _ => .boolean
theorem nmX0 : ∀ a, a < 9 → ∀ b, b < 9 → a ≠ b → (TX0 a).2.1 ≠ (TX0 b).2.1 := by decide +kernel
theorem tyX0_ok : ∀ k, k < 9 → parseFieldDescriptor (TX0 k).2.2.1 = some (tyX0 k) := by decide +kernel
def yX0_init : MethodName := ⟨RX0, "<init>", "(II)V"⟩
def RX1 : String := "StatementCycle$Books"
def TX1 : u_T := fun k => match k with
  | 0 => ("StatementCycle$Books", "owed", "[J", true)
  | 1 => ("StatementCycle$Books", "accrued", "[J", true)
  | 2 => ("StatementCycle$Books", "rates", "[I", true)
  | 3 => ("StatementCycle$Books", "ratesOfDay", "[I", true)
  | 4 => ("StatementCycle$Books", "statements", "[LStatementCycle$Statement;", true)
  | 5 => ("StatementCycle$Books", "credit", "J", false)
  | 6 => ("StatementCycle$Books", "promotedRate", "I", false)
  | 7 => ("StatementCycle$Books", "promotedUntil", "I", false)
  | 8 => ("StatementCycle$Books", "planUntil", "I", false)
  | 9 => ("StatementCycle$Books", "isOff", "Z", false)
  | 10 => ("StatementCycle$Books", "paidSinceClosing", "J", false)
  | 11 => ("StatementCycle$Books", "feesOfCycle", "J", false)
  | 12 => ("StatementCycle$Books", "lateFees", "J", false)
  | 13 => ("StatementCycle$Books", "closed", "I", false)
  | 14 => ("StatementCycle$Books", "dueStatements", "I", false)
  | 15 => ("StatementCycle$Books", "missedStatements", "I", false)
  | _ => ("StatementCycle$Books", "missedInARow", "I", false)
def tyX1 : Nat → FieldType := fun k => match k with
  | 0 => .array .long
  | 1 => .array .long
  | 2 => .array .int
  | 3 => .array .int
  | 4 => .array (.object "StatementCycle$Statement")
  | 5 => .long
  | 6 => .int
  | 7 => .int
  | 8 => .int
  | 9 => .boolean
  | 10 => .long
  | 11 => .long
  | 12 => .long
  | 13 => .int
  | 14 => .int
  | 15 => .int
  | _ => .int
theorem nmX1 : ∀ a, a < 17 → ∀ b, b < 17 → a ≠ b → (TX1 a).2.1 ≠ (TX1 b).2.1 := by decide +kernel
theorem tyX1_ok : ∀ k, k < 17 → parseFieldDescriptor (TX1 k).2.2.1 = some (tyX1 k) := by decide +kernel
def yX1_init : MethodName := ⟨RX1, "<init>", "()V"⟩
def RX3 : String := "StatementCycle$Statement"
def TX3 : u_T := fun k => match k with
  | 0 => ("StatementCycle$Statement", "balance", "J", false)
  | 1 => ("StatementCycle$Statement", "least", "J", false)
  | 2 => ("StatementCycle$Statement", "interest", "J", false)
  | 3 => ("StatementCycle$Statement", "isWithGrace", "Z", false)
  | _ => ("StatementCycle$Statement", "outcome", "C", false)
def tyX3 : Nat → FieldType := fun k => match k with
  | 0 => .long
  | 1 => .long
  | 2 => .long
  | 3 => .boolean
  | _ => .char
theorem nmX3 : ∀ a, a < 5 → ∀ b, b < 5 → a ≠ b → (TX3 a).2.1 ≠ (TX3 b).2.1 := by decide +kernel
theorem tyX3_ok : ∀ k, k < 5 → parseFieldDescriptor (TX3 k).2.2.1 = some (tyX3 k) := by decide +kernel
abbrev cX3_init : ByteArray := prog_5_method_1_code
def yX3_init : MethodName := ⟨RX3, "<init>", "()V"⟩
def RX4 : String := "StatementCycle"
def TX4 : u_T := fun k => match k with
  | 0 => ("StatementCycle", "accounts", "Ljava/util/ArrayList;", true)
  | 1 => ("StatementCycle", "worths", "[I", true)
  | 2 => ("StatementCycle", "recomputed", "LStatementCycle$Books;", true)
  | _ => ("StatementCycle", "day", "I", false)
def tyX4 : Nat → FieldType := fun k => match k with
  | 0 => .object "java/util/ArrayList"
  | 1 => .array .int
  | 2 => .object "StatementCycle$Books"
  | _ => .int
theorem nmX4 : ∀ a, a < 4 → ∀ b, b < 4 → a ≠ b → (TX4 a).2.1 ≠ (TX4 b).2.1 := by decide +kernel
theorem tyX4_ok : ∀ k, k < 4 → parseFieldDescriptor (TX4 k).2.2.1 = some (tyX4 k) := by decide +kernel
abbrev cX4_accountAt : ByteArray := prog_1_method_45_code
def yX4_accountAt : MethodName := ⟨RX4, "accountAt", "(I)LStatementCycle$Account;"⟩
def RX5 : String := "StatementCycleModel$Account"
def TX5 : u_T := fun k => match k with
  | 0 => ("StatementCycleModel$Account", "limit", "I", false)
  | 1 => ("StatementCycleModel$Account", "isBlocked", "Z", false)
  | 2 => ("StatementCycleModel$Account", "events", "Ljava/util/List;", true)
  | _ => ("StatementCycleModel$Account", "told", "[Ljava/lang/Long;", true)
def tyX5 : Nat → FieldType := fun k => match k with
  | 0 => .int
  | 1 => .boolean
  | 2 => .object "java/util/List"
  | _ => .array (.object "java/lang/Long")
theorem nmX5 : ∀ a, a < 4 → ∀ b, b < 4 → a ≠ b → (TX5 a).2.1 ≠ (TX5 b).2.1 := by decide +kernel
theorem tyX5_ok : ∀ k, k < 4 → parseFieldDescriptor (TX5 k).2.2.1 = some (tyX5 k) := by decide +kernel
def yX5_init : MethodName := ⟨RX5, "<init>", "()V"⟩
def RX8 : String := "StatementCycleModel"
def TX8 : u_T := fun k => match k with
  | 0 => ("StatementCycleModel", "accounts", "Ljava/util/List;", true)
  | 1 => ("StatementCycleModel", "currencies", "[I", true)
  | 2 => ("StatementCycleModel", "day", "I", false)
  | _ => ("StatementCycleModel", "thrown", "I", false)
def tyX8 : Nat → FieldType := fun k => match k with
  | 0 => .object "java/util/List"
  | 1 => .array .int
  | 2 => .int
  | _ => .int
theorem nmX8 : ∀ a, a < 4 → ∀ b, b < 4 → a ≠ b → (TX8 a).2.1 ≠ (TX8 b).2.1 := by decide +kernel
theorem tyX8_ok : ∀ k, k < 4 → parseFieldDescriptor (TX8 k).2.2.1 = some (tyX8 k) := by decide +kernel
def RJxa1e45 : String := "java/util/AbstractCollection"
abbrev cJxa1e45_init_da8c8 : ByteArray := prog_40_method_1_code
def yJxa1e45_init_da8c8 : MethodName := ⟨RJxa1e45, "<init>", "()V"⟩
def RJxc12de : String := "java/util/AbstractList"
abbrev cJxc12de_init_da8c8 : ByteArray := prog_41_method_1_code
def yJxc12de_init_da8c8 : MethodName := ⟨RJxc12de, "<init>", "()V"⟩
def RJx35411 : String := "java/util/ArrayList$Itr"
def TJx35411 : u_T := fun k => match k with
  | 0 => ("java/util/ArrayList$Itr", "cursor", "I", false)
  | 1 => ("java/util/ArrayList$Itr", "lastRet", "I", false)
  | 2 => ("java/util/ArrayList$Itr", "expectedModCount", "I", false)
  | _ => ("java/util/ArrayList$Itr", "this$0", "Ljava/util/ArrayList;", true)
def tyJx35411 : Nat → FieldType := fun k => match k with
  | 0 => .int
  | 1 => .int
  | 2 => .int
  | _ => .object "java/util/ArrayList"
theorem nmJx35411 : ∀ a, a < 4 → ∀ b, b < 4 → a ≠ b → (TJx35411 a).2.1 ≠ (TJx35411 b).2.1 := by decide +kernel
theorem tyJx35411_ok : ∀ k, k < 4 → parseFieldDescriptor (TJx35411 k).2.2.1 = some (tyJx35411 k) := by decide +kernel
def yJx35411_hasNext_aae02 : MethodName := ⟨RJx35411, "hasNext", "()Z"⟩
def RJx4a65c : String := "java/util/ArrayList"
def TJx4a65c : u_T := fun k => match k with
  | 0 => ("java/util/AbstractList", "modCount", "I", false)
  | 1 => ("java/util/ArrayList", "elementData", "[Ljava/lang/Object;", false)
  | _ => ("java/util/ArrayList", "size", "I", false)
def tyJx4a65c : Nat → FieldType := fun k => match k with
  | 0 => .int
  | 1 => .array (.object "java/lang/Object")
  | _ => .int
theorem nmJx4a65c : ∀ a, a < 3 → ∀ b, b < 3 → a ≠ b → (TJx4a65c a).2.1 ≠ (TJx4a65c b).2.1 := by decide +kernel
theorem tyJx4a65c_ok : ∀ k, k < 3 → parseFieldDescriptor (TJx4a65c k).2.2.1 = some (tyJx4a65c k) := by decide +kernel
abbrev cJx4a65c_init_da8c8 : ByteArray := prog_42_method_2_code
def yJx4a65c_init_da8c8 : MethodName := ⟨RJx4a65c, "<init>", "()V"⟩
abbrev cJx4a65c_size_8abf5 : ByteArray := prog_42_method_8_code
def yJx4a65c_size_8abf5 : MethodName := ⟨RJx4a65c, "size", "()I"⟩
def yJx4a65c_isEmpty_aae02 : MethodName := ⟨RJx4a65c, "isEmpty", "()Z"⟩
def yJx4a65c_get_915e3 : MethodName := ⟨RJx4a65c, "get", "(I)Ljava/lang/Object;"⟩
def yJx4a65c_add_9ea2d : MethodName := ⟨RJx4a65c, "add", "(Ljava/lang/Object;)Z"⟩
def yJx4a65c_iterator_32c93 : MethodName := ⟨RJx4a65c, "iterator", "()Ljava/util/Iterator;"⟩
theorem dJx4a65c_init_da8c8_0 : decode cJx4a65c_init_da8c8 0 = .ok (.aload_n 0, 1) := by decide +kernel
theorem dJx4a65c_init_da8c8_1 : decode cJx4a65c_init_da8c8 1 = .ok (.invokespecial 1, 3) := by decide +kernel
theorem dJx4a65c_init_da8c8_4 : decode cJx4a65c_init_da8c8 4 = .ok (.aload_n 0, 1) := by decide +kernel
theorem dJx4a65c_init_da8c8_5 : decode cJx4a65c_init_da8c8 5 = .ok (.getstatic 39, 3) := by decide +kernel
theorem dJx4a65c_init_da8c8_8 : decode cJx4a65c_init_da8c8 8 = .ok (.putfield 9, 3) := by decide +kernel
theorem dJx4a65c_init_da8c8_11 : decode cJx4a65c_init_da8c8 11 = .ok (.return_, 1) := by decide +kernel
theorem dJx4a65c_size_8abf5_0 : decode cJx4a65c_size_8abf5 0 = .ok (.aload_n 0, 1) := by decide +kernel
theorem dJx4a65c_size_8abf5_1 : decode cJx4a65c_size_8abf5 1 = .ok (.getfield 48, 3) := by decide +kernel
theorem dJx4a65c_size_8abf5_4 : decode cJx4a65c_size_8abf5 4 = .ok (.ireturn, 1) := by decide +kernel
theorem dJxa1e45_init_da8c8_0 : decode cJxa1e45_init_da8c8 0 = .ok (.aload_n 0, 1) := by decide +kernel
theorem dJxa1e45_init_da8c8_1 : decode cJxa1e45_init_da8c8 1 = .ok (.invokespecial 1, 3) := by decide +kernel
theorem dJxa1e45_init_da8c8_4 : decode cJxa1e45_init_da8c8 4 = .ok (.return_, 1) := by decide +kernel
theorem dJxc12de_init_da8c8_0 : decode cJxc12de_init_da8c8 0 = .ok (.aload_n 0, 1) := by decide +kernel
theorem dJxc12de_init_da8c8_1 : decode cJxc12de_init_da8c8 1 = .ok (.invokespecial 1, 3) := by decide +kernel
theorem dJxc12de_init_da8c8_4 : decode cJxc12de_init_da8c8 4 = .ok (.aload_n 0, 1) := by decide +kernel
theorem dJxc12de_init_da8c8_5 : decode cJxc12de_init_da8c8 5 = .ok (.iconst 0, 1) := by decide +kernel
theorem dJxc12de_init_da8c8_6 : decode cJxc12de_init_da8c8 6 = .ok (.putfield 7, 3) := by decide +kernel
theorem dJxc12de_init_da8c8_9 : decode cJxc12de_init_da8c8 9 = .ok (.return_, 1) := by decide +kernel
theorem dX3_init_0 : decode cX3_init 0 = .ok (.aload_n 0, 1) := by decide +kernel
theorem dX3_init_1 : decode cX3_init 1 = .ok (.invokespecial 1, 3) := by decide +kernel
theorem dX3_init_4 : decode cX3_init 4 = .ok (.return_, 1) := by decide +kernel
theorem dX4_accountAt_0 : decode cX4_accountAt 0 = .ok (.iload_n 1, 1) := by decide +kernel
theorem dX4_accountAt_1 : decode cX4_accountAt 1 = .ok (.ifCond .lt 14, 3) := by decide +kernel
theorem dX4_accountAt_4 : decode cX4_accountAt 4 = .ok (.iload_n 1, 1) := by decide +kernel
theorem dX4_accountAt_5 : decode cX4_accountAt 5 = .ok (.aload_n 0, 1) := by decide +kernel
theorem dX4_accountAt_6 : decode cX4_accountAt 6 = .ok (.getfield 10, 3) := by decide +kernel
theorem dX4_accountAt_9 : decode cX4_accountAt 9 = .ok (.invokevirtual 32, 3) := by decide +kernel
theorem dX4_accountAt_12 : decode cX4_accountAt 12 = .ok (.if_icmp .lt 11, 3) := by decide +kernel
theorem dX4_accountAt_15 : decode cX4_accountAt 15 = .ok (.new 234, 3) := by decide +kernel
theorem dX4_accountAt_18 : decode cX4_accountAt 18 = .ok (.dup, 1) := by decide +kernel
theorem dX4_accountAt_19 : decode cX4_accountAt 19 = .ok (.invokespecial 236, 3) := by decide +kernel
theorem dX4_accountAt_22 : decode cX4_accountAt 22 = .ok (.athrow, 1) := by decide +kernel
abbrev zc : List vw_C := [(RJx4a65c, TJx4a65c, 3), (RJx35411, TJx35411, 4), (RX0, TX0, 9), (RX1, TX1, 17), (RX3, TX3, 5), (RX4, TX4, 4), (RX5, TX5, 4), (RX8, TX8, 4)]
/-! what every contract here is written in: one list of words, one shape of start -/
def zG : List Cond := lw_tbl.filter goodWord
theorem zg_mem {w : Cond} (i : Nat) (h : lw_tbl[i]? = some w) (hg : goodWord w = true) : w ∈ zG := List.mem_filter.mpr ⟨List.mem_of_getElem? h, hg⟩
theorem zg_tbl {w : Cond} (h : w ∈ zG) : w ∈ lw_tbl := (List.mem_filter.mp h).1
theorem zg_good {w : Cond} (h : w ∈ zG) : goodWord w = true := (List.mem_filter.mp h).2
theorem zg_in {ws : List Cond} (h : ∀ w ∈ ws, w ∈ zG) : GoodIn zG ws := fun w hw => ⟨h w hw, good_of_word (zg_good (h w hw))⟩
theorem zg_cons {w0 : Cond} (h : w0 ∈ zG) : ∀ w ∈ w0 :: zG, w ∈ zG := fun w hw => (List.mem_cons.mp hw).elim (fun e => e ▸ h) id
theorem zg_c {w0 : Cond} (h : w0 ∈ zG) : GoodIn zG (w0 :: zG) := zg_in (zg_cons h)
theorem zg_app {w0 : Cond} {pre : List Cond} (h : w0 ∈ zG) (hp : ∀ w ∈ pre, w ∈ zG) : GoodIn zG (pre ++ w0 :: zG) := zg_in (fun w hw => (List.mem_append.mp hw).elim (hp w) (zg_cons h w))
theorem zg_l2 {a b : Cond} (ha : a ∈ zG) (hb : b ∈ zG) : ∀ w ∈ [a, b], w ∈ zG := List.forall_mem_cons.mpr ⟨ha, List.forall_mem_cons.mpr ⟨hb, fun _ h => absurd h List.not_mem_nil⟩⟩
theorem zg_l3 {a b c : Cond} (ha : a ∈ zG) (hb : b ∈ zG) (hc : c ∈ zG) : ∀ w ∈ [a, b, c], w ∈ zG := List.forall_mem_cons.mpr ⟨ha, zg_l2 hb hc⟩
theorem zg_l4 {a b c d : Cond} (ha : a ∈ zG) (hb : b ∈ zG) (hc : c ∈ zG) (hd : d ∈ zG) : ∀ w ∈ [a, b, c, d], w ∈ zG := List.forall_mem_cons.mpr ⟨ha, zg_l3 hb hc hd⟩
theorem zg_V {own C : String} {idx : Nat} {y : MethodName} {w0 : Cond} (h1 : Cond.methodLink own idx y ∈ zG) (h2 : Cond.instanceMethod y ∈ zG) (h3 : Cond.selects C y y ∈ zG) (h4 : Cond.initialized C ∈ zG) (h : w0 ∈ zG) : GoodIn zG (wsV own idx C y (w0 :: zG)) := zg_app h (zg_l4 h1 h2 h3 h4)
theorem zg_S {own : String} {idx : Nat} {y : MethodName} {w0 : Cond} (h1 : Cond.methodLink own idx y ∈ zG) (h2 : Cond.static y ∈ zG) (h3 : Cond.initialized y.cls ∈ zG) (h : w0 ∈ zG) : GoodIn zG (va_wsS own idx y (w0 :: zG)) := zg_app h (zg_l3 h1 h2 h3)
theorem zg_F {own C : String} {idx : Nat} {x y : MethodName} {w0 : Cond} (h1 : Cond.methodLink own idx x ∈ zG) (h2 : Cond.selects C x y ∈ zG) (h3 : Cond.instanceMethod y ∈ zG) (h4 : Cond.initialized y.cls ∈ zG) (h : w0 ∈ zG) : GoodIn zG (va_wsF own idx C x y (w0 :: zG)) := zg_app h (zg_l4 h1 h2 h3 h4)
/-- the tables' words that aren't kept by a list: of nest mates, interfaces, arrays, casts -/
def zN : List Cond := lw_tbl.filter (fun w => w.onTables)
def zT (U : State) : Prop := va_Nw (.methodLinkNest RX4 22 yX1_init RX4) U ∧ va_Nw (.methodLinkNest RX4 45 yX0_init RX4) U ∧ va_Nw (.methodLinkNest RX0 37 yX1_init RX4) U ∧ va_Nw (.methodLinkNest RX1 31 yX3_init RX4) U ∧ va_Nw (.methodLinkNest RX8 74 yX5_init RX8) U ∧ va_Fw RJx4a65c ⟨"java/util/List", "size", "()I"⟩ yJx4a65c_size_8abf5 U ∧ va_Fw RJx4a65c ⟨"java/util/List", "get", "(I)Ljava/lang/Object;"⟩ yJx4a65c_get_915e3 U ∧ va_Fw RJx4a65c ⟨"java/util/List", "add", "(Ljava/lang/Object;)Z"⟩ yJx4a65c_add_9ea2d U ∧ va_Fw RJx4a65c ⟨"java/util/List", "isEmpty", "()Z"⟩ yJx4a65c_isEmpty_aae02 U ∧ va_Fw RJx4a65c ⟨"java/util/List", "iterator", "()Ljava/util/Iterator;"⟩ yJx4a65c_iterator_32c93 U ∧ va_Fw RJx35411 ⟨"java/util/Iterator", "hasNext", "()Z"⟩ yJx35411_hasNext_aae02 U ∧ va_AO "StatementCycle$Statement" U ∧ va_AO "java/lang/Object" U ∧ va_AO "java/lang/Long" U ∧ va_Nw (.castable RX0 "java/lang/Object") U ∧ va_Nw (.castable RX5 "java/lang/Object") U ∧ va_Nw (.castable "java/lang/IndexOutOfBoundsException" "java/lang/IndexOutOfBoundsException") U ∧ va_Nw (.castable "java/lang/IllegalArgumentException" "java/lang/IllegalArgumentException") U ∧ va_Nw (.castable "java/lang/ArithmeticException" "java/lang/ArithmeticException") U ∧ va_Nw (.declares ⟨"java/lang/RuntimeException", "<init>", "()V"⟩) U ∧ va_Nw (.declares ⟨"java/lang/Exception", "<init>", "()V"⟩) U ∧ va_Nw (.declares ⟨"java/lang/Throwable", "<init>", "()V"⟩) U
theorem zT_nX4_22 {U : State} (h : zT U) : va_Nw (.methodLinkNest RX4 22 yX1_init RX4) U := h.1
theorem zT_nX4_45 {U : State} (h : zT U) : va_Nw (.methodLinkNest RX4 45 yX0_init RX4) U := h.2.1
theorem zT_nX0_37 {U : State} (h : zT U) : va_Nw (.methodLinkNest RX0 37 yX1_init RX4) U := h.2.2.1
theorem zT_nX1_31 {U : State} (h : zT U) : va_Nw (.methodLinkNest RX1 31 yX3_init RX4) U := h.2.2.2.1
theorem zT_nX8_74 {U : State} (h : zT U) : va_Nw (.methodLinkNest RX8 74 yX5_init RX8) U := h.2.2.2.2.1
theorem zT_fsize {U : State} (h : zT U) : va_Fw RJx4a65c ⟨"java/util/List", "size", "()I"⟩ yJx4a65c_size_8abf5 U := h.2.2.2.2.2.1
theorem zT_fget {U : State} (h : zT U) : va_Fw RJx4a65c ⟨"java/util/List", "get", "(I)Ljava/lang/Object;"⟩ yJx4a65c_get_915e3 U := h.2.2.2.2.2.2.1
theorem zT_fadd {U : State} (h : zT U) : va_Fw RJx4a65c ⟨"java/util/List", "add", "(Ljava/lang/Object;)Z"⟩ yJx4a65c_add_9ea2d U := h.2.2.2.2.2.2.2.1
theorem zT_fisEmpty {U : State} (h : zT U) : va_Fw RJx4a65c ⟨"java/util/List", "isEmpty", "()Z"⟩ yJx4a65c_isEmpty_aae02 U := h.2.2.2.2.2.2.2.2.1
theorem zT_fiterator {U : State} (h : zT U) : va_Fw RJx4a65c ⟨"java/util/List", "iterator", "()Ljava/util/Iterator;"⟩ yJx4a65c_iterator_32c93 U := h.2.2.2.2.2.2.2.2.2.1
theorem zT_fhasNext {U : State} (h : zT U) : va_Fw RJx35411 ⟨"java/util/Iterator", "hasNext", "()Z"⟩ yJx35411_hasNext_aae02 U := h.2.2.2.2.2.2.2.2.2.2.1
theorem zT_aoS {U : State} (h : zT U) : va_AO "StatementCycle$Statement" U := h.2.2.2.2.2.2.2.2.2.2.2.1
theorem zT_aoO {U : State} (h : zT U) : va_AO "java/lang/Object" U := h.2.2.2.2.2.2.2.2.2.2.2.2.1
theorem zT_aoL {U : State} (h : zT U) : va_AO "java/lang/Long" U := h.2.2.2.2.2.2.2.2.2.2.2.2.2.1
theorem zT_caX0 {U : State} (h : zT U) : va_Nw (.castable RX0 "java/lang/Object") U := h.2.2.2.2.2.2.2.2.2.2.2.2.2.2.1
theorem zT_caX5 {U : State} (h : zT U) : va_Nw (.castable RX5 "java/lang/Object") U := h.2.2.2.2.2.2.2.2.2.2.2.2.2.2.2.1
theorem zT_kI {U : State} (h : zT U) : va_Nw (.castable "java/lang/IndexOutOfBoundsException" "java/lang/IndexOutOfBoundsException") U := h.2.2.2.2.2.2.2.2.2.2.2.2.2.2.2.2.1
theorem zT_kA {U : State} (h : zT U) : va_Nw (.castable "java/lang/IllegalArgumentException" "java/lang/IllegalArgumentException") U := h.2.2.2.2.2.2.2.2.2.2.2.2.2.2.2.2.2.1
theorem zT_kR {U : State} (h : zT U) : va_Nw (.castable "java/lang/ArithmeticException" "java/lang/ArithmeticException") U := h.2.2.2.2.2.2.2.2.2.2.2.2.2.2.2.2.2.2.1
theorem zT_dR {U : State} (h : zT U) : va_Nw (.declares ⟨"java/lang/RuntimeException", "<init>", "()V"⟩) U := h.2.2.2.2.2.2.2.2.2.2.2.2.2.2.2.2.2.2.2.1
theorem zT_dE {U : State} (h : zT U) : va_Nw (.declares ⟨"java/lang/Exception", "<init>", "()V"⟩) U := h.2.2.2.2.2.2.2.2.2.2.2.2.2.2.2.2.2.2.2.2.1
theorem zT_dT {U : State} (h : zT U) : va_Nw (.declares ⟨"java/lang/Throwable", "<init>", "()V"⟩) U := h.2.2.2.2.2.2.2.2.2.2.2.2.2.2.2.2.2.2.2.2.2
theorem zT_moved {s U : State} (hW : s.WarmedH U.vm) (h : zT s) : zT U := ⟨va_Nw.warmM hW (zT_nX4_22 h), va_Nw.warmM hW (zT_nX4_45 h), va_Nw.warmM hW (zT_nX0_37 h), va_Nw.warmM hW (zT_nX1_31 h), va_Nw.warmM hW (zT_nX8_74 h), va_Fw.moved ⟨by decide +kernel, by decide +kernel⟩ hW.alike (zT_fsize h), va_Fw.moved ⟨by decide +kernel, by decide +kernel⟩ hW.alike (zT_fget h), va_Fw.moved ⟨by decide +kernel, by decide +kernel⟩ hW.alike (zT_fadd h), va_Fw.moved ⟨by decide +kernel, by decide +kernel⟩ hW.alike (zT_fisEmpty h), va_Fw.moved ⟨by decide +kernel, by decide +kernel⟩ hW.alike (zT_fiterator h), va_Fw.moved ⟨by decide +kernel, by decide +kernel⟩ hW.alike (zT_fhasNext h), va_AO.moved hW.alike (zT_aoS h), va_AO.moved hW.alike (zT_aoO h), va_AO.moved hW.alike (zT_aoL h), va_Nw.warmC hW (zT_caX0 h), va_Nw.warmC hW (zT_caX5 h), va_Nw.warmC hW (zT_kI h), va_Nw.warmC hW (zT_kA h), va_Nw.warmC hW (zT_kR h), va_Nw.warmD hW (zT_dR h), va_Nw.warmD hW (zT_dE h), va_Nw.warmD hW (zT_dT h)⟩
def zK (X : String) : List Cond := [.castable X X, .declares ⟨"java/lang/RuntimeException", "<init>", "()V"⟩, .declares ⟨"java/lang/Exception", "<init>", "()V"⟩, .declares ⟨"java/lang/Throwable", "<init>", "()V"⟩]
theorem zK_all {X : String} {A : Array Value} {U : State} (hc : va_Nw (.castable X X) U) (h : zT U) : ∀ w ∈ zK X, w.before A U = true := List.forall_mem_cons.mpr ⟨va_Nw.use rfl hc, List.forall_mem_cons.mpr ⟨va_Nw.use rfl (zT_dR h), List.forall_mem_cons.mpr ⟨va_Nw.use rfl (zT_dE h), List.forall_mem_cons.mpr ⟨va_Nw.use rfl (zT_dT h), fun _ h => absurd h List.not_mem_nil⟩⟩⟩⟩
theorem zK_hat {L : List Cond} {X : String} {A : Array Value} {U : State} (hL : ∀ w ∈ L, (w ∈ zG ∨ w ∈ zK X) ∧ vx_ot w = true) (hts : ∀ w ∈ zG, w.before A U = true) (hc : va_Nw (.castable X X) U) (h : zT U) : ∀ w ∈ L, w.before A U = true := fun w hw => (hL w hw).1.elim (hts w) (zK_all hc h w)
theorem zT_made {s : State} {A : Array Value} (h : ∀ w ∈ lw_tbl, w.before A s = true) : zT s :=
  ⟨va_Nw.of rfl (h _ (List.mem_of_getElem? (i := 142) (by decide +kernel))),
   va_Nw.of rfl (h _ (List.mem_of_getElem? (i := 518) (by decide +kernel))),
   va_Nw.of rfl (h _ (List.mem_of_getElem? (i := 525) (by decide +kernel))),
   va_Nw.of rfl (h _ (List.mem_of_getElem? (i := 149) (by decide +kernel))),
   va_Nw.of rfl (h _ (List.mem_of_getElem? (i := 1391) (by decide +kernel))),
   va_Fw.of (h _ (List.mem_of_getElem? (i := 1384) (by decide +kernel))) (h _ (List.mem_of_getElem? (i := 1383) (by decide +kernel))) (h _ (List.mem_of_getElem? (i := 1388) (by decide +kernel))) (h _ (List.mem_of_getElem? (i := 1387) (by decide +kernel))) (h _ (List.mem_of_getElem? (i := 1385) (by decide +kernel))),
   va_Fw.of (h _ (List.mem_of_getElem? (i := 1424) (by decide +kernel))) (h _ (List.mem_of_getElem? (i := 1423) (by decide +kernel))) (h _ (List.mem_of_getElem? (i := 1427) (by decide +kernel))) (h _ (List.mem_of_getElem? (i := 1426) (by decide +kernel))) (h _ (List.mem_of_getElem? (i := 1385) (by decide +kernel))),
   va_Fw.of (h _ (List.mem_of_getElem? (i := 1417) (by decide +kernel))) (h _ (List.mem_of_getElem? (i := 1416) (by decide +kernel))) (h _ (List.mem_of_getElem? (i := 1420) (by decide +kernel))) (h _ (List.mem_of_getElem? (i := 1419) (by decide +kernel))) (h _ (List.mem_of_getElem? (i := 1385) (by decide +kernel))),
   va_Fw.of (h _ (List.mem_of_getElem? (i := 2010) (by decide +kernel))) (h _ (List.mem_of_getElem? (i := 2009) (by decide +kernel))) (h _ (List.mem_of_getElem? (i := 2014) (by decide +kernel))) (h _ (List.mem_of_getElem? (i := 2012) (by decide +kernel))) (h _ (List.mem_of_getElem? (i := 1385) (by decide +kernel))),
   va_Fw.of (h _ (List.mem_of_getElem? (i := 1587) (by decide +kernel))) (h _ (List.mem_of_getElem? (i := 1586) (by decide +kernel))) (h _ (List.mem_of_getElem? (i := 1591) (by decide +kernel))) (h _ (List.mem_of_getElem? (i := 1589) (by decide +kernel))) (h _ (List.mem_of_getElem? (i := 1385) (by decide +kernel))),
   va_Fw.of (h _ (List.mem_of_getElem? (i := 1616) (by decide +kernel))) (h _ (List.mem_of_getElem? (i := 1615) (by decide +kernel))) (h _ (List.mem_of_getElem? (i := 1621) (by decide +kernel))) (h _ (List.mem_of_getElem? (i := 1619) (by decide +kernel))) (h _ (List.mem_of_getElem? (i := 1617) (by decide +kernel))),
   va_AO.of (h _ (List.mem_of_getElem? (i := 147) (by decide +kernel))),
   va_AO.of (h _ (List.mem_of_getElem? (i := 618) (by decide +kernel))),
   va_AO.of (h _ (List.mem_of_getElem? (i := 1398) (by decide +kernel))),
   va_Nw.of rfl (h _ (List.mem_of_getElem? (i := 2039) (by decide +kernel))),
   va_Nw.of rfl (h _ (List.mem_of_getElem? (i := 2040) (by decide +kernel))),
   va_Nw.of rfl (h _ (List.mem_of_getElem? (i := 674) (by decide +kernel))),
   va_Nw.of rfl (h _ (List.mem_of_getElem? (i := 437) (by decide +kernel))),
   va_Nw.of rfl (h _ (List.mem_of_getElem? (i := 1326) (by decide +kernel))),
   va_Nw.of rfl (h _ (List.mem_of_getElem? (i := 438) (by decide +kernel))),
   va_Nw.of rfl (h _ (List.mem_of_getElem? (i := 440) (by decide +kernel))),
   va_Nw.of rfl (h _ (List.mem_of_getElem? (i := 442) (by decide +kernel)))⟩
def zS1 (A : Nat → Prop) (U : State) (H : Heap) : Prop := vx_Zq Bundle.tN "UNASSIGNED_STACK" Bundle.steD A U H
def zS2 (A : Nat → Prop) (U : State) (H : Heap) : Prop := vx_Zq Bundle.tN "SUPPRESSED_SENTINEL" Bundle.listD A U H
def zS3 (t : Nat) (A : Nat → Prop) (U : State) (H : Heap) : Prop := va_Z "java/util/ArrayList" "DEFAULTCAPACITY_EMPTY_ELEMENTDATA" "[Ljava/lang/Object;" (.ref t) A U H
def zS4 (t : Nat) (A : Nat → Prop) (U : State) (H : Heap) : Prop := va_T (.object "java/lang/Object") t 0 (fun _ => .null) A U H
def zZ (t : Nat) (A : Nat → Prop) (U : State) (H : Heap) : Prop := zS1 A U H ∧ zS2 A U H ∧ zS3 t A U H ∧ zS4 t A U H
theorem zZ_kept {t : Nat} {A : Nat → Prop} {U : State} {H H1 : Heap} (h : zZ t A U H) (hq : ∀ a : Nat, a < H.size → ¬ A a → H1[a]? = H[a]?) : zZ t A U H1 := ⟨vx_Zq.kept h.1 hq, vx_Zq.kept h.2.1 hq, va_Z.kept h.2.2.1 hq, va_T.kept h.2.2.2 hq⟩
theorem zZ_narrow {t : Nat} {A B : Nat → Prop} {U : State} {H : Heap} (h : zZ t A U H) (hAB : ∀ q, B q → A q) : zZ t B U H := ⟨vx_Zq.narrow h.1 hAB, vx_Zq.narrow h.2.1 hAB, va_Z.narrow h.2.2.1 hAB, va_T.narrow h.2.2.2 hAB⟩
theorem zZ_moved {t : Nat} {A : Nat → Prop} {u U : State} {H : Heap} (hvm : u.vm.Alike U.vm) (h : zZ t A u H) : zZ t A U H := ⟨vx_Zq.moved hvm h.1, vx_Zq.moved hvm h.2.1, va_Z.moved hvm h.2.2.1, va_T.moved hvm h.2.2.2⟩
def zQ (t : Nat) (A : Nat → Prop) (U : State) (H : Heap) : Prop := zT U ∧ zZ t A U H
theorem zQ_moved {t : Nat} {A : Nat → Prop} {u U : State} {H : Heap} (hW : u.WarmedH U.vm) (h : zQ t A u H) : zQ t A U H := ⟨zT_moved hW h.1, zZ_moved hW.alike h.2⟩
theorem zQ_narrow {t : Nat} {A B : Nat → Prop} {U : State} {H : Heap} (h : zQ t A U H) (hAB : ∀ q, B q → A q) : zQ t B U H := ⟨h.1, zZ_narrow h.2 hAB⟩
def zA (dC : Nat → ClassId) (dI : Nat → Nat → Nat) (ws : va_W) (tys : List (ClassId × FieldType)) (sz t : Nat) (av : List Value) : Array Value → State → Prop :=
  va_Pc av (fun U => U.heap.size = sz ∧ va_P (dC, dI) zc ws U.heap ∧ va_K (dC, dI) zc tys U ∧ va_D (fun _ => True) ws ∧ zQ t (va_A ws sz) U U.heap)
def zB (dC : Nat → ClassId) (dI : Nat → Nat → Nat) (A : Nat → Prop) (ws : va_W) (tys : List (ClassId × FieldType)) (t : State) : Prop :=
  va_P (dC, dI) zc ws t.heap ∧ va_K (dC, dI) zc tys t ∧ va_D A ws
theorem zA_blind {dC : Nat → ClassId} {dI : Nat → Nat → Nat} {ws : va_W} {tys : List (ClassId × FieldType)} {sz t : Nat} {av : List Value} : FrameBlind (zA dC dI ws tys sz t av) := fun a U g mk q =>
  ⟨q.1, q.2.1, q.2.2.1, va_K.moved (u := U) (U := U.calling g mk a) (Vm.Alike.refl U.vm) q.2.2.2.1, q.2.2.2.2.1, zQ_moved (u := U) (U := U.calling g mk a) (State.WarmedH.refl U) q.2.2.2.2.2⟩
/-- what a callee wants, out of what the caller holds: the cells by their places -/
theorem zA_pre {s : State} {H : Heap} {locs : List Loc} {A : Nat → Prop} {dC : Nat → ClassId} {dI : Nat → Nat → Nat} {ws wc : va_W} {tys tyc : List (ClassId × FieldType)} {t : Nat} {av : List Value}
    (hP : va_P (dC, dI) zc ws H) (hD : va_D A ws) (hS : va_S A s.heap H locs) (hK : va_K (dC, dI) zc tys s) (hQ : zQ t A s s.heap) (hA : ∀ q, s.heap.size ≤ q → A q)
    (is : List Nat) (h1 : is.filterMap (fun i => ws[i]?) = wc) (h2 : is.map (fun i => ws[i]?) = wc.map some) (hn : va_nd is = true) (ks : List Nat) (h3 : ks.filterMap (fun i => tys[i]?) = tyc) :
    ∀ U : State, U.heap = H → s.WarmedH U.vm → zA dC dI wc tyc H.size t av av.toArray U := fun U hU hW => by
  have hF := va_free hD hS hA is h2
  refine ⟨rfl, by rw [hU], by rw [hU]; exact hP.sub is h1, va_K.moved hW.alike (hK.sub ks h3), (hD.sub is hn h2).weaken (fun _ _ _ _ => trivial), ?_⟩
  rw [hU]
  exact zQ_moved hW ⟨hQ.1, zZ_narrow (zZ_kept hQ.2 hS.2.1) hF⟩
theorem zP_new {dC : Nat → ClassId} {dI : Nat → Nat → Nat} {ws : va_W} {H H1 : Heap} (hP : va_P (dC, dI) zc ws H) (hk : ∀ q : Nat, q < H.size → ¬ H.size ≤ q → H1[q]? = H[q]?) : va_P (dC, dI) zc ws H1 :=
  hP.kept (fun k q h => hk q.1 (vx_lt hP h) (Nat.not_le.mpr (vx_lt hP h)))
theorem zS_F {A : Nat → Prop} {s t : State} {H : Heap} {locs : List Loc} (h : va_S A s.heap H locs) (ht : t.heap = H) : va_F A s t := h.F ht
theorem zl_b {a b : Nat} (h : Nat.ble a b = true) : a ≤ b := Nat.le_of_ble_eq_true h
