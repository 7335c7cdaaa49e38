/-! ===== BEGIN printed: names, fields, word lists, decode rows ===== -/
def RX0 : String := "DebtClearing$1"
def TX0 : u_T := fun k => match k with
  | _ => ("", "", "", false)
def tyX0 : Nat → FieldType := fun k => match k with
  | _ => .int
abbrev wsX00 : List Cond := u_ws RX0 TX0 0
theorem nmX0 : ∀ a, a < 0 → ∀ b, b < 0 → a ≠ b → (TX0 a).2.1 ≠ (TX0 b).2.1 := by decide +kernel
theorem tyX0_ok : ∀ k, k < 0 → parseFieldDescriptor (TX0 k).2.2.1 = some (tyX0 k) := by decide +kernel
def RX1 : String := "DebtClearing$Clearing"
def TX1 : u_T := fun k => match k with
  | 0 => ("DebtClearing$Clearing", "open", "[I", true)
  | 1 => ("DebtClearing$Clearing", "debtor", "I", false)
  | 2 => ("DebtClearing$Clearing", "creditor", "I", false)
  | _ => ("DebtClearing$Clearing", "amount", "I", false)
def tyX1 : Nat → FieldType := fun k => match k with
  | 0 => .array .int
  | 1 => .int
  | 2 => .int
  | _ => .int
abbrev wsX10 : List Cond := u_ws RX1 TX1 4
theorem nmX1 : ∀ a, a < 4 → ∀ b, b < 4 → a ≠ b → (TX1 a).2.1 ≠ (TX1 b).2.1 := by decide +kernel
theorem tyX1_ok : ∀ k, k < 4 → parseFieldDescriptor (TX1 k).2.2.1 = some (tyX1 k) := by decide +kernel
abbrev cX1_init : ByteArray := prog_3_method_1_code
def yX1_init : MethodName := ⟨RX1, "<init>", "()V"⟩
abbrev cX1_replaceDebts : ByteArray := prog_3_method_2_code
def yX1_replaceDebts : MethodName := ⟨RX1, "replaceDebts", "(LDebtClearing$Ledger;)I"⟩
abbrev cX1_openPositions : ByteArray := prog_3_method_4_code
def yX1_openPositions : MethodName := ⟨RX1, "openPositions", "(LDebtClearing$Ledger;)V"⟩
abbrev cX1_findDebt : ByteArray := prog_3_method_5_code
def yX1_findDebt : MethodName := ⟨RX1, "findDebt", "()Z"⟩
def RX2 : String := "DebtClearing$Command"
def TX2 : u_T := fun k => match k with
  | _ => ("", "", "", false)
def tyX2 : Nat → FieldType := fun k => match k with
  | _ => .int
abbrev wsX20 : List Cond := u_ws RX2 TX2 0
theorem nmX2 : ∀ a, a < 0 → ∀ b, b < 0 → a ≠ b → (TX2 a).2.1 ≠ (TX2 b).2.1 := by decide +kernel
theorem tyX2_ok : ∀ k, k < 0 → parseFieldDescriptor (TX2 k).2.2.1 = some (tyX2 k) := by decide +kernel
def RX3 : String := "DebtClearing$CommandText"
def TX3 : u_T := fun k => match k with
  | 0 => ("DebtClearing$CommandText", "characters", "[C", true)
  | 1 => ("DebtClearing$CommandText", "numbers", "[I", true)
  | 2 => ("DebtClearing$CommandText", "length", "I", false)
  | 3 => ("DebtClearing$CommandText", "numberCount", "I", false)
  | 4 => ("DebtClearing$CommandText", "commandCount", "I", false)
  | 5 => ("DebtClearing$CommandText", "reached", "I", false)
  | _ => ("DebtClearing$CommandText", "end", "I", false)
def tyX3 : Nat → FieldType := fun k => match k with
  | 0 => .array .char
  | 1 => .array .int
  | 2 => .int
  | 3 => .int
  | 4 => .int
  | 5 => .int
  | _ => .int
abbrev wsX30 : List Cond := u_ws RX3 TX3 7
theorem nmX3 : ∀ a, a < 7 → ∀ b, b < 7 → a ≠ b → (TX3 a).2.1 ≠ (TX3 b).2.1 := by decide +kernel
theorem tyX3_ok : ∀ k, k < 7 → parseFieldDescriptor (TX3 k).2.2.1 = some (tyX3 k) := by decide +kernel
abbrev cX3_init : ByteArray := prog_5_method_1_code
def yX3_init : MethodName := ⟨RX3, "<init>", "()V"⟩
abbrev cX3_isFull : ByteArray := prog_5_method_2_code
def yX3_isFull : MethodName := ⟨RX3, "isFull", "()Z"⟩
abbrev cX3_append : ByteArray := prog_5_method_3_code
def yX3_append : MethodName := ⟨RX3, "append", "(C)I"⟩
abbrev cX3_empty : ByteArray := prog_5_method_4_code
def yX3_empty : MethodName := ⟨RX3, "empty", "()V"⟩
abbrev cX3_numberAt : ByteArray := prog_5_method_5_code
def yX3_numberAt : MethodName := ⟨RX3, "numberAt", "(I)I"⟩
abbrev cX3_findError : ByteArray := prog_5_method_6_code
def yX3_findError : MethodName := ⟨RX3, "findError", "()I"⟩
abbrev cX3_commandAt : ByteArray := prog_5_method_7_code
def yX3_commandAt : MethodName := ⟨RX3, "commandAt", "(I)LDebtClearing$Command;"⟩
abbrev cX3_follows : ByteArray := prog_5_method_8_code
def yX3_follows : MethodName := ⟨RX3, "follows", "(Ljava/lang/String;I)Z"⟩
abbrev cX3_readNumber : ByteArray := prog_5_method_9_code
def yX3_readNumber : MethodName := ⟨RX3, "readNumber", "(Z)V"⟩
abbrev cX3_hasAt : ByteArray := prog_5_method_10_code
def yX3_hasAt : MethodName := ⟨RX3, "hasAt", "(IC)Z"⟩
abbrev cX3_hasDigitAt : ByteArray := prog_5_method_11_code
def yX3_hasDigitAt : MethodName := ⟨RX3, "hasDigitAt", "(I)Z"⟩
def RX4 : String := "DebtClearing$History"
def TX4 : u_T := fun k => match k with
  | 0 => ("DebtClearing$History", "states", "[LDebtClearing$Ledger;", true)
  | 1 => ("DebtClearing$History", "next", "I", false)
  | _ => ("DebtClearing$History", "count", "I", false)
def tyX4 : Nat → FieldType := fun k => match k with
  | 0 => .array (.object "DebtClearing$Ledger")
  | 1 => .int
  | _ => .int
abbrev wsX40 : List Cond := u_ws RX4 TX4 3
theorem nmX4 : ∀ a, a < 3 → ∀ b, b < 3 → a ≠ b → (TX4 a).2.1 ≠ (TX4 b).2.1 := by decide +kernel
theorem tyX4_ok : ∀ k, k < 3 → parseFieldDescriptor (TX4 k).2.2.1 = some (tyX4 k) := by decide +kernel
abbrev cX4_init : ByteArray := prog_6_method_1_code
def yX4_init : MethodName := ⟨RX4, "<init>", "()V"⟩
abbrev cX4_keep : ByteArray := prog_6_method_2_code
def yX4_keep : MethodName := ⟨RX4, "keep", "(LDebtClearing$Ledger;)V"⟩
abbrev cX4_bringBack : ByteArray := prog_6_method_3_code
def yX4_bringBack : MethodName := ⟨RX4, "bringBack", "(LDebtClearing$Ledger;)I"⟩
abbrev cX4_forget : ByteArray := prog_6_method_4_code
def yX4_forget : MethodName := ⟨RX4, "forget", "()V"⟩
def RX5 : String := "DebtClearing$Ledger"
def TX5 : u_T := fun k => match k with
  | 0 => ("DebtClearing$Ledger", "amounts", "[I", true)
  | 1 => ("DebtClearing$Ledger", "coins", "[I", true)
  | 2 => ("DebtClearing$Ledger", "collateral", "[I", true)
  | 3 => ("DebtClearing$Ledger", "limits", "[I", true)
  | 4 => ("DebtClearing$Ledger", "accounts", "[I", true)
  | 5 => ("DebtClearing$Ledger", "defaulted", "[Z", true)
  | 6 => ("DebtClearing$Ledger", "memberCount", "I", false)
  | 7 => ("DebtClearing$Ledger", "haircut", "I", false)
  | 8 => ("DebtClearing$Ledger", "netted", "I", false)
  | _ => ("DebtClearing$Ledger", "lost", "I", false)
def tyX5 : Nat → FieldType := fun k => match k with
  | 0 => .array .int
  | 1 => .array .int
  | 2 => .array .int
  | 3 => .array .int
  | 4 => .array .int
  | 5 => .array .boolean
  | 6 => .int
  | 7 => .int
  | 8 => .int
  | _ => .int
abbrev wsX50 : List Cond := u_ws RX5 TX5 10
theorem nmX5 : ∀ a, a < 10 → ∀ b, b < 10 → a ≠ b → (TX5 a).2.1 ≠ (TX5 b).2.1 := by decide +kernel
theorem tyX5_ok : ∀ k, k < 10 → parseFieldDescriptor (TX5 k).2.2.1 = some (tyX5 k) := by decide +kernel
abbrev cX5_init : ByteArray := prog_7_method_1_code
def yX5_init : MethodName := ⟨RX5, "<init>", "()V"⟩
abbrev cX5_copyFrom : ByteArray := prog_7_method_2_code
def yX5_copyFrom : MethodName := ⟨RX5, "copyFrom", "(LDebtClearing$Ledger;)V"⟩
abbrev cX5_hasMember : ByteArray := prog_7_method_3_code
def yX5_hasMember : MethodName := ⟨RX5, "hasMember", "(I)Z"⟩
abbrev cX5_amountOwed : ByteArray := prog_7_method_4_code
def yX5_amountOwed : MethodName := ⟨RX5, "amountOwed", "(II)I"⟩
abbrev cX5_debitOf : ByteArray := prog_7_method_5_code
def yX5_debitOf : MethodName := ⟨RX5, "debitOf", "(I)I"⟩
abbrev cX5_creditOf : ByteArray := prog_7_method_6_code
def yX5_creditOf : MethodName := ⟨RX5, "creditOf", "(I)I"⟩
abbrev cX5_positionOf : ByteArray := prog_7_method_7_code
def yX5_positionOf : MethodName := ⟨RX5, "positionOf", "(I)I"⟩
abbrev cX5_coverOf : ByteArray := prog_7_method_8_code
def yX5_coverOf : MethodName := ⟨RX5, "coverOf", "(I)I"⟩
abbrev cX5_meansOf : ByteArray := prog_7_method_9_code
def yX5_meansOf : MethodName := ⟨RX5, "meansOf", "(I)I"⟩
abbrev cX5_lossOf : ByteArray := prog_7_method_10_code
def yX5_lossOf : MethodName := ⟨RX5, "lossOf", "(I)I"⟩
abbrev cX5_countDebts : ByteArray := prog_7_method_11_code
def yX5_countDebts : MethodName := ⟨RX5, "countDebts", "()I"⟩
abbrev cX5_placeOfLargestDebt : ByteArray := prog_7_method_13_code
def yX5_placeOfLargestDebt : MethodName := ⟨RX5, "placeOfLargestDebt", "()I"⟩
abbrev cX5_sumOfAbsolutePositions : ByteArray := prog_7_method_14_code
def yX5_sumOfAbsolutePositions : MethodName := ⟨RX5, "sumOfAbsolutePositions", "()I"⟩
abbrev cX5_memberAtRank : ByteArray := prog_7_method_16_code
def yX5_memberAtRank : MethodName := ⟨RX5, "memberAtRank", "(I)I"⟩
abbrev cX5_countAhead : ByteArray := prog_7_method_17_code
def yX5_countAhead : MethodName := ⟨RX5, "countAhead", "(I)I"⟩
abbrev cX5_isAhead : ByteArray := prog_7_method_18_code
def yX5_isAhead : MethodName := ⟨RX5, "isAhead", "(II)Z"⟩
abbrev cX5_join : ByteArray := prog_7_method_19_code
def yX5_join : MethodName := ⟨RX5, "join", "()I"⟩
abbrev cX5_changeDebt : ByteArray := prog_7_method_20_code
def yX5_changeDebt : MethodName := ⟨RX5, "changeDebt", "(III)I"⟩
abbrev cX5_payDebt : ByteArray := prog_7_method_21_code
def yX5_payDebt : MethodName := ⟨RX5, "payDebt", "(III)I"⟩
abbrev cX5_netTwo : ByteArray := prog_7_method_22_code
def yX5_netTwo : MethodName := ⟨RX5, "netTwo", "(II)I"⟩
abbrev cX5_netThree : ByteArray := prog_7_method_23_code
def yX5_netThree : MethodName := ⟨RX5, "netThree", "(III)I"⟩
abbrev cX5_addCollateral : ByteArray := prog_7_method_24_code
def yX5_addCollateral : MethodName := ⟨RX5, "addCollateral", "(II)I"⟩
abbrev cX5_exchangeLimit : ByteArray := prog_7_method_25_code
def yX5_exchangeLimit : MethodName := ⟨RX5, "exchangeLimit", "(II)I"⟩
abbrev cX5_exchangeHaircut : ByteArray := prog_7_method_26_code
def yX5_exchangeHaircut : MethodName := ⟨RX5, "exchangeHaircut", "(I)I"⟩
abbrev cX5_forgiveDebts : ByteArray := prog_7_method_27_code
def yX5_forgiveDebts : MethodName := ⟨RX5, "forgiveDebts", "(I)V"⟩
def RX6 : String := "DebtClearing$Network"
def TX6 : u_T := fun k => match k with
  | 0 => ("DebtClearing$Network", "matrix", "[I", true)
  | 1 => ("DebtClearing$Network", "square", "[I", true)
  | 2 => ("DebtClearing$Network", "cube", "[I", true)
  | 3 => ("DebtClearing$Network", "queue", "[I", true)
  | _ => ("DebtClearing$Network", "sets", "[I", true)
def tyX6 : Nat → FieldType := fun k => match k with
  | 0 => .array .int
  | 1 => .array .int
  | 2 => .array .int
  | 3 => .array .int
  | _ => .array .int
abbrev wsX60 : List Cond := u_ws RX6 TX6 5
theorem nmX6 : ∀ a, a < 5 → ∀ b, b < 5 → a ≠ b → (TX6 a).2.1 ≠ (TX6 b).2.1 := by decide +kernel
theorem tyX6_ok : ∀ k, k < 5 → parseFieldDescriptor (TX6 k).2.2.1 = some (tyX6 k) := by decide +kernel
abbrev cX6_init : ByteArray := prog_8_method_1_code
def yX6_init : MethodName := ⟨RX6, "<init>", "()V"⟩
abbrev cX6_countTriangles : ByteArray := prog_8_method_3_code
def yX6_countTriangles : MethodName := ⟨RX6, "countTriangles", "(LDebtClearing$Ledger;)I"⟩
abbrev cX6_countReached : ByteArray := prog_8_method_5_code
def yX6_countReached : MethodName := ⟨RX6, "countReached", "(LDebtClearing$Ledger;I)I"⟩
abbrev cX6_isReached : ByteArray := prog_8_method_6_code
def yX6_isReached : MethodName := ⟨RX6, "isReached", "(LDebtClearing$Ledger;II)Z"⟩
abbrev cX6_countReachedByRounds : ByteArray := prog_8_method_7_code
def yX6_countReachedByRounds : MethodName := ⟨RX6, "countReachedByRounds", "(LDebtClearing$Ledger;I)I"⟩
abbrev cX6_drawMatrix : ByteArray := prog_8_method_8_code
def yX6_drawMatrix : MethodName := ⟨RX6, "drawMatrix", "(LDebtClearing$Ledger;)V"⟩
abbrev cX6_owes : ByteArray := prog_8_method_9_code
def yX6_owes : MethodName := ⟨RX6, "owes", "(II)Z"⟩
abbrev cX6_follow : ByteArray := prog_8_method_11_code
def yX6_follow : MethodName := ⟨RX6, "follow", "(I)I"⟩
abbrev cX6_startSets : ByteArray := prog_8_method_12_code
def yX6_startSets : MethodName := ⟨RX6, "startSets", "()V"⟩
abbrev cX6_joinSets : ByteArray := prog_8_method_13_code
def yX6_joinSets : MethodName := ⟨RX6, "joinSets", "()Z"⟩
def RX7 : String := "DebtClearing$Payout"
def TX7 : u_T := fun k => match k with
  | 0 => ("DebtClearing$Payout", "shares", "[I", true)
  | _ => ("DebtClearing$Payout", "remainders", "[I", true)
def tyX7 : Nat → FieldType := fun k => match k with
  | 0 => .array .int
  | _ => .array .int
abbrev wsX70 : List Cond := u_ws RX7 TX7 2
theorem nmX7 : ∀ a, a < 2 → ∀ b, b < 2 → a ≠ b → (TX7 a).2.1 ≠ (TX7 b).2.1 := by decide +kernel
theorem tyX7_ok : ∀ k, k < 2 → parseFieldDescriptor (TX7 k).2.2.1 = some (tyX7 k) := by decide +kernel
abbrev cX7_init : ByteArray := prog_9_method_1_code
def yX7_init : MethodName := ⟨RX7, "<init>", "()V"⟩
abbrev cX7_settle : ByteArray := prog_9_method_2_code
def yX7_settle : MethodName := ⟨RX7, "settle", "(LDebtClearing$Ledger;I)I"⟩
abbrev cX7_shareOf : ByteArray := prog_9_method_3_code
def yX7_shareOf : MethodName := ⟨RX7, "shareOf", "(LDebtClearing$Ledger;II)I"⟩
abbrev cX7_divide : ByteArray := prog_9_method_4_code
def yX7_divide : MethodName := ⟨RX7, "divide", "(LDebtClearing$Ledger;I)V"⟩
abbrev cX7_giveOneByOne : ByteArray := prog_9_method_5_code
def yX7_giveOneByOne : MethodName := ⟨RX7, "giveOneByOne", "(I)V"⟩
def RX8 : String := "DebtClearing$Refusal"
def TX8 : u_T := fun k => match k with
  | _ => ("", "", "", false)
def tyX8 : Nat → FieldType := fun k => match k with
  | _ => .int
abbrev wsX80 : List Cond := u_ws RX8 TX8 0
theorem nmX8 : ∀ a, a < 0 → ∀ b, b < 0 → a ≠ b → (TX8 a).2.1 ≠ (TX8 b).2.1 := by decide +kernel
theorem tyX8_ok : ∀ k, k < 0 → parseFieldDescriptor (TX8 k).2.2.1 = some (tyX8 k) := by decide +kernel
def RX9 : String := "DebtClearing$Rules"
def TX9 : u_T := fun k => match k with
  | _ => ("", "", "", false)
def tyX9 : Nat → FieldType := fun k => match k with
  | _ => .int
abbrev wsX90 : List Cond := u_ws RX9 TX9 0
theorem nmX9 : ∀ a, a < 0 → ∀ b, b < 0 → a ≠ b → (TX9 a).2.1 ≠ (TX9 b).2.1 := by decide +kernel
theorem tyX9_ok : ∀ k, k < 0 → parseFieldDescriptor (TX9 k).2.2.1 = some (tyX9 k) := by decide +kernel
abbrev cX9_onMember : ByteArray := prog_11_method_2_code
def yX9_onMember : MethodName := ⟨RX9, "onMember", "(LDebtClearing$Ledger;I)LDebtClearing$Refusal;"⟩
abbrev cX9_onPair : ByteArray := prog_11_method_3_code
def yX9_onPair : MethodName := ⟨RX9, "onPair", "(LDebtClearing$Ledger;II)LDebtClearing$Refusal;"⟩
abbrev cX9_onJoining : ByteArray := prog_11_method_4_code
def yX9_onJoining : MethodName := ⟨RX9, "onJoining", "(LDebtClearing$Ledger;)LDebtClearing$Refusal;"⟩
abbrev cX9_onDebt : ByteArray := prog_11_method_5_code
def yX9_onDebt : MethodName := ⟨RX9, "onDebt", "(LDebtClearing$Ledger;III)LDebtClearing$Refusal;"⟩
abbrev cX9_onPayment : ByteArray := prog_11_method_6_code
def yX9_onPayment : MethodName := ⟨RX9, "onPayment", "(LDebtClearing$Ledger;III)LDebtClearing$Refusal;"⟩
abbrev cX9_onPairAndAmount : ByteArray := prog_11_method_7_code
def yX9_onPairAndAmount : MethodName := ⟨RX9, "onPairAndAmount", "(LDebtClearing$Ledger;III)LDebtClearing$Refusal;"⟩
abbrev cX9_onTriangle : ByteArray := prog_11_method_8_code
def yX9_onTriangle : MethodName := ⟨RX9, "onTriangle", "(LDebtClearing$Ledger;III)LDebtClearing$Refusal;"⟩
abbrev cX9_onPledge : ByteArray := prog_11_method_9_code
def yX9_onPledge : MethodName := ⟨RX9, "onPledge", "(LDebtClearing$Ledger;II)LDebtClearing$Refusal;"⟩
abbrev cX9_onLimit : ByteArray := prog_11_method_10_code
def yX9_onLimit : MethodName := ⟨RX9, "onLimit", "(LDebtClearing$Ledger;II)LDebtClearing$Refusal;"⟩
abbrev cX9_onHaircut : ByteArray := prog_11_method_11_code
def yX9_onHaircut : MethodName := ⟨RX9, "onHaircut", "(I)LDebtClearing$Refusal;"⟩
abbrev cX9_onDefault : ByteArray := prog_11_method_12_code
def yX9_onDefault : MethodName := ⟨RX9, "onDefault", "(LDebtClearing$Ledger;I)LDebtClearing$Refusal;"⟩
abbrev cX9_isAmount : ByteArray := prog_11_method_13_code
def yX9_isAmount : MethodName := ⟨RX9, "isAmount", "(I)Z"⟩
def RX10 : String := "DebtClearing"
def TX10 : u_T := fun k => match k with
  | 0 => ("DebtClearing", "ledger", "LDebtClearing$Ledger;", true)
  | 1 => ("DebtClearing", "before", "LDebtClearing$Ledger;", true)
  | 2 => ("DebtClearing", "saved", "LDebtClearing$Ledger;", true)
  | 3 => ("DebtClearing", "clearing", "LDebtClearing$Clearing;", true)
  | 4 => ("DebtClearing", "payout", "LDebtClearing$Payout;", true)
  | 5 => ("DebtClearing", "network", "LDebtClearing$Network;", true)
  | 6 => ("DebtClearing", "history", "LDebtClearing$History;", true)
  | 7 => ("DebtClearing", "input", "LDebtClearing$CommandText;", true)
  | 8 => ("DebtClearing", "output", "Ljava/lang/StringBuilder;", true)
  | 9 => ("DebtClearing", "hasSaved", "Z", false)
  | 10 => ("DebtClearing", "latestErrorPosition", "I", false)
  | _ => ("DebtClearing", "latestFailedCommand", "I", false)
def tyX10 : Nat → FieldType := fun k => match k with
  | 0 => .object "DebtClearing$Ledger"
  | 1 => .object "DebtClearing$Ledger"
  | 2 => .object "DebtClearing$Ledger"
  | 3 => .object "DebtClearing$Clearing"
  | 4 => .object "DebtClearing$Payout"
  | 5 => .object "DebtClearing$Network"
  | 6 => .object "DebtClearing$History"
  | 7 => .object "DebtClearing$CommandText"
  | 8 => .object "java/lang/StringBuilder"
  | 9 => .boolean
  | 10 => .int
  | _ => .int
abbrev wsX100 : List Cond := u_ws RX10 TX10 12
theorem nmX10 : ∀ a, a < 12 → ∀ b, b < 12 → a ≠ b → (TX10 a).2.1 ≠ (TX10 b).2.1 := by decide +kernel
theorem tyX10_ok : ∀ k, k < 12 → parseFieldDescriptor (TX10 k).2.2.1 = some (tyX10 k) := by decide +kernel
abbrev cX10_init : ByteArray := prog_1_method_1_code
def yX10_init : MethodName := ⟨RX10, "<init>", "()V"⟩
abbrev cX10_addMember : ByteArray := prog_1_method_2_code
def yX10_addMember : MethodName := ⟨RX10, "addMember", "()I"⟩
abbrev cX10_addDebt : ByteArray := prog_1_method_3_code
def yX10_addDebt : MethodName := ⟨RX10, "addDebt", "(III)I"⟩
abbrev cX10_pay : ByteArray := prog_1_method_4_code
def yX10_pay : MethodName := ⟨RX10, "pay", "(III)I"⟩
abbrev cX10_netPair : ByteArray := prog_1_method_5_code
def yX10_netPair : MethodName := ⟨RX10, "netPair", "(II)I"⟩
abbrev cX10_netTriangle : ByteArray := prog_1_method_6_code
def yX10_netTriangle : MethodName := ⟨RX10, "netTriangle", "(III)I"⟩
abbrev cX10_clearAll : ByteArray := prog_1_method_7_code
def yX10_clearAll : MethodName := ⟨RX10, "clearAll", "()I"⟩
abbrev cX10_pledge : ByteArray := prog_1_method_8_code
def yX10_pledge : MethodName := ⟨RX10, "pledge", "(II)I"⟩
abbrev cX10_setLimit : ByteArray := prog_1_method_9_code
def yX10_setLimit : MethodName := ⟨RX10, "setLimit", "(II)I"⟩
abbrev cX10_setHaircut : ByteArray := prog_1_method_10_code
def yX10_setHaircut : MethodName := ⟨RX10, "setHaircut", "(I)I"⟩
abbrev cX10_declareDefault : ByteArray := prog_1_method_11_code
def yX10_declareDefault : MethodName := ⟨RX10, "declareDefault", "(I)I"⟩
abbrev cX10_memberCount : ByteArray := prog_1_method_12_code
def yX10_memberCount : MethodName := ⟨RX10, "memberCount", "()I"⟩
abbrev cX10_coins : ByteArray := prog_1_method_13_code
def yX10_coins : MethodName := ⟨RX10, "coins", "(I)I"⟩
abbrev cX10_collateral : ByteArray := prog_1_method_14_code
def yX10_collateral : MethodName := ⟨RX10, "collateral", "(I)I"⟩
abbrev cX10_cover : ByteArray := prog_1_method_15_code
def yX10_cover : MethodName := ⟨RX10, "cover", "(I)I"⟩
abbrev cX10_limit : ByteArray := prog_1_method_16_code
def yX10_limit : MethodName := ⟨RX10, "limit", "(I)I"⟩
abbrev cX10_isInDefault : ByteArray := prog_1_method_17_code
def yX10_isInDefault : MethodName := ⟨RX10, "isInDefault", "(I)Z"⟩
abbrev cX10_haircut : ByteArray := prog_1_method_18_code
def yX10_haircut : MethodName := ⟨RX10, "haircut", "()I"⟩
abbrev cX10_owed : ByteArray := prog_1_method_19_code
def yX10_owed : MethodName := ⟨RX10, "owed", "(II)I"⟩
abbrev cX10_debtCount : ByteArray := prog_1_method_20_code
def yX10_debtCount : MethodName := ⟨RX10, "debtCount", "()I"⟩
abbrev cX10_debit : ByteArray := prog_1_method_21_code
def yX10_debit : MethodName := ⟨RX10, "debit", "(I)I"⟩
abbrev cX10_credit : ByteArray := prog_1_method_22_code
def yX10_credit : MethodName := ⟨RX10, "credit", "(I)I"⟩
abbrev cX10_position : ByteArray := prog_1_method_23_code
def yX10_position : MethodName := ⟨RX10, "position", "(I)I"⟩
abbrev cX10_positionByAccount : ByteArray := prog_1_method_24_code
def yX10_positionByAccount : MethodName := ⟨RX10, "positionByAccount", "(I)I"⟩
abbrev cX10_largestDebtor : ByteArray := prog_1_method_26_code
def yX10_largestDebtor : MethodName := ⟨RX10, "largestDebtor", "()I"⟩
abbrev cX10_largestCreditor : ByteArray := prog_1_method_27_code
def yX10_largestCreditor : MethodName := ⟨RX10, "largestCreditor", "()I"⟩
abbrev cX10_triangles : ByteArray := prog_1_method_28_code
def yX10_triangles : MethodName := ⟨RX10, "triangles", "()I"⟩
abbrev cX10_reachCount : ByteArray := prog_1_method_30_code
def yX10_reachCount : MethodName := ⟨RX10, "reachCount", "(I)I"⟩
abbrev cX10_reachCountByRounds : ByteArray := prog_1_method_31_code
def yX10_reachCountByRounds : MethodName := ⟨RX10, "reachCountByRounds", "(I)I"⟩
abbrev cX10_reaches : ByteArray := prog_1_method_32_code
def yX10_reaches : MethodName := ⟨RX10, "reaches", "(II)Z"⟩
abbrev cX10_lossIfDefault : ByteArray := prog_1_method_34_code
def yX10_lossIfDefault : MethodName := ⟨RX10, "lossIfDefault", "(I)I"⟩
abbrev cX10_shareIfDefault : ByteArray := prog_1_method_35_code
def yX10_shareIfDefault : MethodName := ⟨RX10, "shareIfDefault", "(II)I"⟩
abbrev cX10_memberByPosition : ByteArray := prog_1_method_36_code
def yX10_memberByPosition : MethodName := ⟨RX10, "memberByPosition", "(I)I"⟩
abbrev cX10_nettedAmount : ByteArray := prog_1_method_37_code
def yX10_nettedAmount : MethodName := ⟨RX10, "nettedAmount", "()I"⟩
abbrev cX10_lostAmount : ByteArray := prog_1_method_38_code
def yX10_lostAmount : MethodName := ⟨RX10, "lostAmount", "()I"⟩
abbrev cX10_meanPosition : ByteArray := prog_1_method_39_code
def yX10_meanPosition : MethodName := ⟨RX10, "meanPosition", "()D"⟩
abbrev cX10_debtShare : ByteArray := prog_1_method_40_code
def yX10_debtShare : MethodName := ⟨RX10, "debtShare", "()F"⟩
abbrev cX10_feed : ByteArray := prog_1_method_42_code
def yX10_feed : MethodName := ⟨RX10, "feed", "(C)I"⟩
abbrev cX10_runCommands : ByteArray := prog_1_method_43_code
def yX10_runCommands : MethodName := ⟨RX10, "runCommands", "()I"⟩
abbrev cX10_errorPosition : ByteArray := prog_1_method_44_code
def yX10_errorPosition : MethodName := ⟨RX10, "errorPosition", "()I"⟩
abbrev cX10_failedCommand : ByteArray := prog_1_method_45_code
def yX10_failedCommand : MethodName := ⟨RX10, "failedCommand", "()I"⟩
abbrev cX10_writeDebts : ByteArray := prog_1_method_46_code
def yX10_writeDebts : MethodName := ⟨RX10, "writeDebts", "(I)I"⟩
abbrev cX10_outputChar : ByteArray := prog_1_method_47_code
def yX10_outputChar : MethodName := ⟨RX10, "outputChar", "(I)C"⟩
abbrev cX10_undoCount : ByteArray := prog_1_method_48_code
def yX10_undoCount : MethodName := ⟨RX10, "undoCount", "()I"⟩
abbrev cX10_undo : ByteArray := prog_1_method_49_code
def yX10_undo : MethodName := ⟨RX10, "undo", "()I"⟩
abbrev cX10_save : ByteArray := prog_1_method_50_code
def yX10_save : MethodName := ⟨RX10, "save", "()I"⟩
abbrev cX10_restore : ByteArray := prog_1_method_51_code
def yX10_restore : MethodName := ⟨RX10, "restore", "()I"⟩
abbrev cX10_throwIfRefused : ByteArray := prog_1_method_52_code
def yX10_throwIfRefused : MethodName := ⟨RX10, "throwIfRefused", "(LDebtClearing$Refusal;)V"⟩
abbrev cX10_carryOutUntilRefusal : ByteArray := prog_1_method_53_code
def yX10_carryOutUntilRefusal : MethodName := ⟨RX10, "carryOutUntilRefusal", "()I"⟩
abbrev cX10_refusalOf : ByteArray := prog_1_method_54_code
def yX10_refusalOf : MethodName := ⟨RX10, "refusalOf", "(LDebtClearing$Command;)LDebtClearing$Refusal;"⟩
abbrev cX10_carryOut : ByteArray := prog_1_method_55_code
def yX10_carryOut : MethodName := ⟨RX10, "carryOut", "(LDebtClearing$Command;)V"⟩
def RX11 : String := "DebtClearingModel"
def TX11 : u_T := fun k => match k with
  | _ => ("", "", "", false)
def tyX11 : Nat → FieldType := fun k => match k with
  | _ => .int
abbrev wsX110 : List Cond := u_ws RX11 TX11 0
theorem nmX11 : ∀ a, a < 0 → ∀ b, b < 0 → a ≠ b → (TX11 a).2.1 ≠ (TX11 b).2.1 := by decide +kernel
theorem tyX11_ok : ∀ k, k < 0 → parseFieldDescriptor (TX11 k).2.2.1 = some (tyX11 k) := by decide +kernel
def RJx145de : String := "java/io/Serializable"
def TJx145de : u_T := fun k => match k with
  | _ => ("", "", "", false)
def tyJx145de : Nat → FieldType := fun k => match k with
  | _ => .int
abbrev wsJx145de0 : List Cond := u_ws RJx145de TJx145de 0
theorem nmJx145de : ∀ a, a < 0 → ∀ b, b < 0 → a ≠ b → (TJx145de a).2.1 ≠ (TJx145de b).2.1 := by decide +kernel
theorem tyJx145de_ok : ∀ k, k < 0 → parseFieldDescriptor (TJx145de k).2.2.1 = some (tyJx145de k) := by decide +kernel
def RJ5 : String := "java/lang/AbstractStringBuilder"
def TJ5 : u_T := fun k => match k with
  | _ => ("", "", "", false)
def tyJ5 : Nat → FieldType := fun k => match k with
  | _ => .int
abbrev wsJ50 : List Cond := u_ws RJ5 TJ5 0
theorem nmJ5 : ∀ a, a < 0 → ∀ b, b < 0 → a ≠ b → (TJ5 a).2.1 ≠ (TJ5 b).2.1 := by decide +kernel
theorem tyJ5_ok : ∀ k, k < 0 → parseFieldDescriptor (TJ5 k).2.2.1 = some (tyJ5 k) := by decide +kernel
abbrev cJ5_init_d00df : ByteArray := prog_15_method_2_code
def yJ5_init_d00df : MethodName := ⟨RJ5, "<init>", "(I)V"⟩
abbrev cJ5_length_8abf5 : ByteArray := prog_15_method_6_code
def yJ5_length_8abf5 : MethodName := ⟨RJ5, "length", "()I"⟩
abbrev cJ5_ensureCapacityInternal_d00df : ByteArray := prog_15_method_9_code
def yJ5_ensureCapacityInternal_d00df : MethodName := ⟨RJ5, "ensureCapacityInternal", "(I)V"⟩
abbrev cJ5_newCapacity_0f7a4 : ByteArray := prog_15_method_10_code
def yJ5_newCapacity_0f7a4 : MethodName := ⟨RJ5, "newCapacity", "(I)I"⟩
abbrev cJ5_inflate_da8c8 : ByteArray := prog_15_method_11_code
def yJ5_inflate_da8c8 : MethodName := ⟨RJ5, "inflate", "()V"⟩
abbrev cJ5_setLength_d00df : ByteArray := prog_15_method_13_code
def yJ5_setLength_d00df : MethodName := ⟨RJ5, "setLength", "(I)V"⟩
abbrev cJ5_charAt_5068e : ByteArray := prog_15_method_14_code
def yJ5_charAt_5068e : MethodName := ⟨RJ5, "charAt", "(I)C"⟩
abbrev cJ5_append_cf1ce : ByteArray := prog_15_method_22_code
def yJ5_append_cf1ce : MethodName := ⟨RJ5, "append", "(Ljava/lang/String;)Ljava/lang/AbstractStringBuilder;"⟩
abbrev cJ5_appendNull_278bc : ByteArray := prog_15_method_26_code
def yJ5_appendNull_278bc : MethodName := ⟨RJ5, "appendNull", "()Ljava/lang/AbstractStringBuilder;"⟩
abbrev cJ5_append_3fe6f : ByteArray := prog_15_method_31_code
def yJ5_append_3fe6f : MethodName := ⟨RJ5, "append", "(C)Ljava/lang/AbstractStringBuilder;"⟩
abbrev cJ5_append_c97b9 : ByteArray := prog_15_method_32_code
def yJ5_append_c97b9 : MethodName := ⟨RJ5, "append", "(I)Ljava/lang/AbstractStringBuilder;"⟩
abbrev cJ5_getValue_6d5f1 : ByteArray := prog_15_method_64_code
def yJ5_getValue_6d5f1 : MethodName := ⟨RJ5, "getValue", "()[B"⟩
abbrev cJ5_isLatin1_aae02 : ByteArray := prog_15_method_68_code
def yJ5_isLatin1_aae02 : MethodName := ⟨RJ5, "isLatin1", "()Z"⟩
abbrev cJ5_inflateIfNeededFor_a7421 : ByteArray := prog_15_method_71_code
def yJ5_inflateIfNeededFor_a7421 : MethodName := ⟨RJ5, "inflateIfNeededFor", "(Ljava/lang/String;)V"⟩
abbrev cJ5_putStringAt_47b60 : ByteArray := prog_15_method_73_code
def yJ5_putStringAt_47b60 : MethodName := ⟨RJ5, "putStringAt", "(ILjava/lang/String;)V"⟩
def RJx2cfe8 : String := "java/lang/Appendable"
def TJx2cfe8 : u_T := fun k => match k with
  | _ => ("", "", "", false)
def tyJx2cfe8 : Nat → FieldType := fun k => match k with
  | _ => .int
abbrev wsJx2cfe80 : List Cond := u_ws RJx2cfe8 TJx2cfe8 0
theorem nmJx2cfe8 : ∀ a, a < 0 → ∀ b, b < 0 → a ≠ b → (TJx2cfe8 a).2.1 ≠ (TJx2cfe8 b).2.1 := by decide +kernel
theorem tyJx2cfe8_ok : ∀ k, k < 0 → parseFieldDescriptor (TJx2cfe8 k).2.2.1 = some (tyJx2cfe8 k) := by decide +kernel
def RJx00060 : String := "java/lang/ArrayIndexOutOfBoundsException"
def TJx00060 : u_T := fun k => match k with
  | 0 => ("java/lang/Throwable", "backtrace", "Ljava/lang/Object;", false)
  | 1 => ("java/lang/Throwable", "detailMessage", "Ljava/lang/String;", false)
  | 2 => ("java/lang/Throwable", "cause", "Ljava/lang/Throwable;", false)
  | 3 => ("java/lang/Throwable", "stackTrace", "[Ljava/lang/StackTraceElement;", false)
  | 4 => ("java/lang/Throwable", "depth", "I", false)
  | _ => ("java/lang/Throwable", "suppressedExceptions", "Ljava/util/List;", false)
def tyJx00060 : Nat → FieldType := fun k => match k with
  | 0 => .object "java/lang/Object"
  | 1 => .object "java/lang/String"
  | 2 => .object "java/lang/Throwable"
  | 3 => .array (.object "java/lang/StackTraceElement")
  | 4 => .int
  | _ => .object "java/util/List"
abbrev wsJx000600 : List Cond := u_ws RJx00060 TJx00060 6
theorem nmJx00060 : ∀ a, a < 6 → ∀ b, b < 6 → a ≠ b → (TJx00060 a).2.1 ≠ (TJx00060 b).2.1 := by decide +kernel
theorem tyJx00060_ok : ∀ k, k < 6 → parseFieldDescriptor (TJx00060 k).2.2.1 = some (tyJx00060 k) := by decide +kernel
abbrev cJx00060_init_a7421 : ByteArray := prog_18_method_2_code
def yJx00060_init_a7421 : MethodName := ⟨RJx00060, "<init>", "(Ljava/lang/String;)V"⟩
abbrev cJx00060_init_d00df : ByteArray := prog_18_method_3_code
def yJx00060_init_d00df : MethodName := ⟨RJx00060, "<init>", "(I)V"⟩
def RJx9f9b0 : String := "java/lang/CharSequence"
def TJx9f9b0 : u_T := fun k => match k with
  | _ => ("", "", "", false)
def tyJx9f9b0 : Nat → FieldType := fun k => match k with
  | _ => .int
abbrev wsJx9f9b00 : List Cond := u_ws RJx9f9b0 TJx9f9b0 0
theorem nmJx9f9b0 : ∀ a, a < 0 → ∀ b, b < 0 → a ≠ b → (TJx9f9b0 a).2.1 ≠ (TJx9f9b0 b).2.1 := by decide +kernel
theorem tyJx9f9b0_ok : ∀ k, k < 0 → parseFieldDescriptor (TJx9f9b0 k).2.2.1 = some (tyJx9f9b0 k) := by decide +kernel
def RJx8e188 : String := "java/lang/Cloneable"
def TJx8e188 : u_T := fun k => match k with
  | _ => ("", "", "", false)
def tyJx8e188 : Nat → FieldType := fun k => match k with
  | _ => .int
abbrev wsJx8e1880 : List Cond := u_ws RJx8e188 TJx8e188 0
theorem nmJx8e188 : ∀ a, a < 0 → ∀ b, b < 0 → a ≠ b → (TJx8e188 a).2.1 ≠ (TJx8e188 b).2.1 := by decide +kernel
theorem tyJx8e188_ok : ∀ k, k < 0 → parseFieldDescriptor (TJx8e188 k).2.2.1 = some (tyJx8e188 k) := by decide +kernel
def RJxb160c : String := "java/lang/Comparable"
def TJxb160c : u_T := fun k => match k with
  | _ => ("", "", "", false)
def tyJxb160c : Nat → FieldType := fun k => match k with
  | _ => .int
abbrev wsJxb160c0 : List Cond := u_ws RJxb160c TJxb160c 0
theorem nmJxb160c : ∀ a, a < 0 → ∀ b, b < 0 → a ≠ b → (TJxb160c a).2.1 ≠ (TJxb160c b).2.1 := by decide +kernel
theorem tyJxb160c_ok : ∀ k, k < 0 → parseFieldDescriptor (TJxb160c k).2.2.1 = some (tyJxb160c k) := by decide +kernel
def RJxe99ae : String := "java/lang/Double"
def TJxe99ae : u_T := fun k => match k with
  | _ => ("", "", "", false)
def tyJxe99ae : Nat → FieldType := fun k => match k with
  | _ => .int
abbrev wsJxe99ae0 : List Cond := u_ws RJxe99ae TJxe99ae 0
theorem nmJxe99ae : ∀ a, a < 0 → ∀ b, b < 0 → a ≠ b → (TJxe99ae a).2.1 ≠ (TJxe99ae b).2.1 := by decide +kernel
theorem tyJxe99ae_ok : ∀ k, k < 0 → parseFieldDescriptor (TJxe99ae k).2.2.1 = some (tyJxe99ae k) := by decide +kernel
abbrev cJxe99ae_isNaN_b9ae7 : ByteArray := prog_22_method_6_code
def yJxe99ae_isNaN_b9ae7 : MethodName := ⟨RJxe99ae, "isNaN", "(D)Z"⟩
abbrev cJxe99ae_doubleToLongBits_ccdee : ByteArray := prog_22_method_23_code
def yJxe99ae_doubleToLongBits_ccdee : MethodName := ⟨RJxe99ae, "doubleToLongBits", "(D)J"⟩
def RJx29ce0 : String := "java/lang/Enum"
def TJx29ce0 : u_T := fun k => match k with
  | _ => ("", "", "", false)
def tyJx29ce0 : Nat → FieldType := fun k => match k with
  | _ => .int
abbrev wsJx29ce00 : List Cond := u_ws RJx29ce0 TJx29ce0 0
theorem nmJx29ce0 : ∀ a, a < 0 → ∀ b, b < 0 → a ≠ b → (TJx29ce0 a).2.1 ≠ (TJx29ce0 b).2.1 := by decide +kernel
theorem tyJx29ce0_ok : ∀ k, k < 0 → parseFieldDescriptor (TJx29ce0 k).2.2.1 = some (tyJx29ce0 k) := by decide +kernel
abbrev cJx29ce0_ordinal_8abf5 : ByteArray := prog_23_method_2_code
def yJx29ce0_ordinal_8abf5 : MethodName := ⟨RJx29ce0, "ordinal", "()I"⟩
def RJxf58ca : String := "java/lang/Float"
def TJxf58ca : u_T := fun k => match k with
  | _ => ("", "", "", false)
def tyJxf58ca : Nat → FieldType := fun k => match k with
  | _ => .int
abbrev wsJxf58ca0 : List Cond := u_ws RJxf58ca TJxf58ca 0
theorem nmJxf58ca : ∀ a, a < 0 → ∀ b, b < 0 → a ≠ b → (TJxf58ca a).2.1 ≠ (TJxf58ca b).2.1 := by decide +kernel
theorem tyJxf58ca_ok : ∀ k, k < 0 → parseFieldDescriptor (TJxf58ca k).2.2.1 = some (tyJxf58ca k) := by decide +kernel
abbrev cJxf58ca_isNaN_12338 : ByteArray := prog_25_method_6_code
def yJxf58ca_isNaN_12338 : MethodName := ⟨RJxf58ca, "isNaN", "(F)Z"⟩
abbrev cJxf58ca_floatToIntBits_5c35a : ByteArray := prog_25_method_24_code
def yJxf58ca_floatToIntBits_5c35a : MethodName := ⟨RJxf58ca, "floatToIntBits", "(F)I"⟩
def RJ6 : String := "java/lang/Integer"
def TJ6 : u_T := fun k => match k with
  | _ => ("", "", "", false)
def tyJ6 : Nat → FieldType := fun k => match k with
  | _ => .int
abbrev wsJ60 : List Cond := u_ws RJ6 TJ6 0
theorem nmJ6 : ∀ a, a < 0 → ∀ b, b < 0 → a ≠ b → (TJ6 a).2.1 ≠ (TJ6 b).2.1 := by decide +kernel
theorem tyJ6_ok : ∀ k, k < 0 → parseFieldDescriptor (TJ6 k).2.2.1 = some (tyJ6 k) := by decide +kernel
abbrev cJ6_getChars_ba4f3 : ByteArray := prog_29_method_12_code
def yJ6_getChars_ba4f3 : MethodName := ⟨RJ6, "getChars", "(II[B)I"⟩
abbrev cJ6_stringSize_0f7a4 : ByteArray := prog_29_method_13_code
def yJ6_stringSize_0f7a4 : MethodName := ⟨RJ6, "stringSize", "(I)I"⟩
abbrev cJ6_compare_7cf53 : ByteArray := prog_29_method_40_code
def yJ6_compare_7cf53 : MethodName := ⟨RJ6, "compare", "(II)I"⟩
abbrev cJ6_bitCount_0f7a4 : ByteArray := prog_29_method_49_code
def yJ6_bitCount_0f7a4 : MethodName := ⟨RJ6, "bitCount", "(I)I"⟩
def RJ9 : String := "java/lang/Math"
def TJ9 : u_T := fun k => match k with
  | _ => ("", "", "", false)
def tyJ9 : Nat → FieldType := fun k => match k with
  | _ => .int
abbrev wsJ90 : List Cond := u_ws RJ9 TJ9 0
theorem nmJ9 : ∀ a, a < 0 → ∀ b, b < 0 → a ≠ b → (TJ9 a).2.1 ≠ (TJ9 b).2.1 := by decide +kernel
theorem tyJ9_ok : ∀ k, k < 0 → parseFieldDescriptor (TJ9 k).2.2.1 = some (tyJ9 k) := by decide +kernel
abbrev cJ9_abs_0f7a4 : ByteArray := prog_30_method_59_code
def yJ9_abs_0f7a4 : MethodName := ⟨RJ9, "abs", "(I)I"⟩
abbrev cJ9_max_7cf53 : ByteArray := prog_30_method_65_code
def yJ9_max_7cf53 : MethodName := ⟨RJ9, "max", "(II)I"⟩
abbrev cJ9_min_7cf53 : ByteArray := prog_30_method_69_code
def yJ9_min_7cf53 : MethodName := ⟨RJ9, "min", "(II)I"⟩
def RJxd2413 : String := "java/lang/Number"
def TJxd2413 : u_T := fun k => match k with
  | _ => ("", "", "", false)
def tyJxd2413 : Nat → FieldType := fun k => match k with
  | _ => .int
abbrev wsJxd24130 : List Cond := u_ws RJxd2413 TJxd2413 0
theorem nmJxd2413 : ∀ a, a < 0 → ∀ b, b < 0 → a ≠ b → (TJxd2413 a).2.1 ≠ (TJxd2413 b).2.1 := by decide +kernel
theorem tyJxd2413_ok : ∀ k, k < 0 → parseFieldDescriptor (TJxd2413 k).2.2.1 = some (tyJxd2413 k) := by decide +kernel
def RJ0 : String := "java/lang/String"
def TJ0 : u_T := fun k => match k with
  | 0 => ("java/lang/String", "value", "[B", true)
  | 1 => ("java/lang/String", "coder", "B", true)
  | 2 => ("java/lang/String", "hash", "I", false)
  | _ => ("java/lang/String", "hashIsZero", "Z", false)
def tyJ0 : Nat → FieldType := fun k => match k with
  | 0 => .array .byte
  | 1 => .byte
  | 2 => .int
  | _ => .boolean
abbrev wsJ00 : List Cond := u_ws RJ0 TJ0 4
theorem nmJ0 : ∀ a, a < 4 → ∀ b, b < 4 → a ≠ b → (TJ0 a).2.1 ≠ (TJ0 b).2.1 := by decide +kernel
theorem tyJ0_ok : ∀ k, k < 4 → parseFieldDescriptor (TJ0 k).2.2.1 = some (tyJ0 k) := by decide +kernel
abbrev cJ0_init_81219 : ByteArray := prog_33_method_53_code
def yJ0_init_81219 : MethodName := ⟨RJ0, "<init>", "(Ljava/lang/StringBuilder;)V"⟩
abbrev cJ0_length_8abf5 : ByteArray := prog_33_method_54_code
def yJ0_length_8abf5 : MethodName := ⟨RJ0, "length", "()I"⟩
abbrev cJ0_charAt_5068e : ByteArray := prog_33_method_56_code
def yJ0_charAt_5068e : MethodName := ⟨RJ0, "charAt", "(I)C"⟩
abbrev cJ0_getBytes_840e7 : ByteArray := prog_33_method_147_code
def yJ0_getBytes_840e7 : MethodName := ⟨RJ0, "getBytes", "([BIB)V"⟩
abbrev cJ0_init_db425 : ByteArray := prog_33_method_150_code
def yJ0_init_db425 : MethodName := ⟨RJ0, "<init>", "(Ljava/lang/AbstractStringBuilder;Ljava/lang/Void;)V"⟩
abbrev cJ0_coder_7d493 : ByteArray := prog_33_method_152_code
def yJ0_coder_7d493 : MethodName := ⟨RJ0, "coder", "()B"⟩
abbrev cJ0_isLatin1_aae02 : ByteArray := prog_33_method_154_code
def yJ0_isLatin1_aae02 : MethodName := ⟨RJ0, "isLatin1", "()Z"⟩
abbrev cJ0_checkIndex_df160 : ByteArray := prog_33_method_155_code
def yJ0_checkIndex_df160 : MethodName := ⟨RJ0, "checkIndex", "(II)V"⟩
abbrev cJ0_checkBoundsOffCount_cabcc : ByteArray := prog_33_method_157_code
def yJ0_checkBoundsOffCount_cabcc : MethodName := ⟨RJ0, "checkBoundsOffCount", "(III)I"⟩
abbrev cJ0_checkBoundsBeginEnd_23922 : ByteArray := prog_33_method_158_code
def yJ0_checkBoundsBeginEnd_23922 : MethodName := ⟨RJ0, "checkBoundsBeginEnd", "(III)V"⟩
def RJ4 : String := "java/lang/StringBuilder"
def TJ4 : u_T := fun k => match k with
  | 0 => ("java/lang/AbstractStringBuilder", "value", "[B", false)
  | 1 => ("java/lang/AbstractStringBuilder", "coder", "B", false)
  | 2 => ("java/lang/AbstractStringBuilder", "maybeLatin1", "Z", false)
  | _ => ("java/lang/AbstractStringBuilder", "count", "I", false)
def tyJ4 : Nat → FieldType := fun k => match k with
  | 0 => .array .byte
  | 1 => .byte
  | 2 => .boolean
  | _ => .int
abbrev wsJ40 : List Cond := u_ws RJ4 TJ4 4
theorem nmJ4 : ∀ a, a < 4 → ∀ b, b < 4 → a ≠ b → (TJ4 a).2.1 ≠ (TJ4 b).2.1 := by decide +kernel
theorem tyJ4_ok : ∀ k, k < 4 → parseFieldDescriptor (TJ4 k).2.2.1 = some (tyJ4 k) := by decide +kernel
abbrev cJ4_init_da8c8 : ByteArray := prog_34_method_1_code
def yJ4_init_da8c8 : MethodName := ⟨RJ4, "<init>", "()V"⟩
abbrev cJ4_append_15ec4 : ByteArray := prog_34_method_7_code
def yJ4_append_15ec4 : MethodName := ⟨RJ4, "append", "(Ljava/lang/String;)Ljava/lang/StringBuilder;"⟩
abbrev cJ4_append_cf468 : ByteArray := prog_34_method_14_code
def yJ4_append_cf468 : MethodName := ⟨RJ4, "append", "(C)Ljava/lang/StringBuilder;"⟩
abbrev cJ4_append_bf812 : ByteArray := prog_34_method_15_code
def yJ4_append_bf812 : MethodName := ⟨RJ4, "append", "(I)Ljava/lang/StringBuilder;"⟩
abbrev cJ4_toString_0e30d : ByteArray := prog_34_method_42_code
def yJ4_toString_0e30d : MethodName := ⟨RJ4, "toString", "()Ljava/lang/String;"⟩
abbrev cJ4_charAt_5068e : ByteArray := prog_34_method_88_code
def yJ4_charAt_5068e : MethodName := ⟨RJ4, "charAt", "(I)C"⟩
abbrev cJ4_setLength_d00df : ByteArray := prog_34_method_89_code
def yJ4_setLength_d00df : MethodName := ⟨RJ4, "setLength", "(I)V"⟩
abbrev cJ4_length_8abf5 : ByteArray := prog_34_method_93_code
def yJ4_length_8abf5 : MethodName := ⟨RJ4, "length", "()I"⟩
def RJx7c733 : String := "java/lang/StringIndexOutOfBoundsException"
def TJx7c733 : u_T := fun k => match k with
  | 0 => ("java/lang/Throwable", "backtrace", "Ljava/lang/Object;", false)
  | 1 => ("java/lang/Throwable", "detailMessage", "Ljava/lang/String;", false)
  | 2 => ("java/lang/Throwable", "cause", "Ljava/lang/Throwable;", false)
  | 3 => ("java/lang/Throwable", "stackTrace", "[Ljava/lang/StackTraceElement;", false)
  | 4 => ("java/lang/Throwable", "depth", "I", false)
  | _ => ("java/lang/Throwable", "suppressedExceptions", "Ljava/util/List;", false)
def tyJx7c733 : Nat → FieldType := fun k => match k with
  | 0 => .object "java/lang/Object"
  | 1 => .object "java/lang/String"
  | 2 => .object "java/lang/Throwable"
  | 3 => .array (.object "java/lang/StackTraceElement")
  | 4 => .int
  | _ => .object "java/util/List"
abbrev wsJx7c7330 : List Cond := u_ws RJx7c733 TJx7c733 6
theorem nmJx7c733 : ∀ a, a < 6 → ∀ b, b < 6 → a ≠ b → (TJx7c733 a).2.1 ≠ (TJx7c733 b).2.1 := by decide +kernel
theorem tyJx7c733_ok : ∀ k, k < 6 → parseFieldDescriptor (TJx7c733 k).2.2.1 = some (tyJx7c733 k) := by decide +kernel
abbrev cJx7c733_init_d00df : ByteArray := prog_35_method_3_code
def yJx7c733_init_d00df : MethodName := ⟨RJx7c733, "<init>", "(I)V"⟩
def RJ1 : String := "java/lang/StringLatin1"
def TJ1 : u_T := fun k => match k with
  | _ => ("", "", "", false)
def tyJ1 : Nat → FieldType := fun k => match k with
  | _ => .int
abbrev wsJ10 : List Cond := u_ws RJ1 TJ1 0
theorem nmJ1 : ∀ a, a < 0 → ∀ b, b < 0 → a ≠ b → (TJ1 a).2.1 ≠ (TJ1 b).2.1 := by decide +kernel
theorem tyJ1_ok : ∀ k, k < 0 → parseFieldDescriptor (TJ1 k).2.2.1 = some (tyJ1 k) := by decide +kernel
abbrev cJ1_charAt_3b067 : ByteArray := prog_36_method_2_code
def yJ1_charAt_3b067 : MethodName := ⟨RJ1, "charAt", "([BI)C"⟩
abbrev cJ1_canEncode_fc78d : ByteArray := prog_36_method_3_code
def yJ1_canEncode_fc78d : MethodName := ⟨RJ1, "canEncode", "(C)Z"⟩
abbrev cJ1_fillNull_b72d1 : ByteArray := prog_36_method_48_code
def yJ1_fillNull_b72d1 : MethodName := ⟨RJ1, "fillNull", "([BII)V"⟩
abbrev cJ1_inflate_0e8fd : ByteArray := prog_36_method_50_code
def yJ1_inflate_0e8fd : MethodName := ⟨RJ1, "inflate", "([BI[BII)V"⟩
def RJ2 : String := "java/lang/StringUTF16"
def TJ2 : u_T := fun k => match k with
  | _ => ("", "", "", false)
def tyJ2 : Nat → FieldType := fun k => match k with
  | _ => .int
abbrev wsJ20 : List Cond := u_ws RJ2 TJ2 0
theorem nmJ2 : ∀ a, a < 0 → ∀ b, b < 0 → a ≠ b → (TJ2 a).2.1 ≠ (TJ2 b).2.1 := by decide +kernel
theorem tyJ2_ok : ∀ k, k < 0 → parseFieldDescriptor (TJ2 k).2.2.1 = some (tyJ2 k) := by decide +kernel
abbrev cJ2_newBytesFor_77867 : ByteArray := prog_37_method_2_code
def yJ2_newBytesFor_77867 : MethodName := ⟨RJ2, "newBytesFor", "(I)[B"⟩
abbrev cJ2_newBytesLength_0f7a4 : ByteArray := prog_37_method_3_code
def yJ2_newBytesLength_0f7a4 : MethodName := ⟨RJ2, "newBytesLength", "(I)I"⟩
abbrev cJ2_putChar_b72d1 : ByteArray := prog_37_method_4_code
def yJ2_putChar_b72d1 : MethodName := ⟨RJ2, "putChar", "([BII)V"⟩
abbrev cJ2_getChar_3b067 : ByteArray := prog_37_method_5_code
def yJ2_getChar_3b067 : MethodName := ⟨RJ2, "getChar", "([BI)C"⟩
abbrev cJ2_length_9d52b : ByteArray := prog_37_method_6_code
def yJ2_length_9d52b : MethodName := ⟨RJ2, "length", "([B)I"⟩
abbrev cJ2_coderFromArrayLen_85cad : ByteArray := prog_37_method_15_code
def yJ2_coderFromArrayLen_85cad : MethodName := ⟨RJ2, "coderFromArrayLen", "([BI)B"⟩
abbrev cJ2_compress_39247 : ByteArray := prog_37_method_17_code
def yJ2_compress_39247 : MethodName := ⟨RJ2, "compress", "([BII)[B"⟩
abbrev cJ2_compress_5af95 : ByteArray := prog_37_method_22_code
def yJ2_compress_5af95 : MethodName := ⟨RJ2, "compress", "([BI[BII)I"⟩
abbrev cJ2_fillNull_b72d1 : ByteArray := prog_37_method_70_code
def yJ2_fillNull_b72d1 : MethodName := ⟨RJ2, "fillNull", "([BII)V"⟩
abbrev cJ2_putCharSB_b72d1 : ByteArray := prog_37_method_71_code
def yJ2_putCharSB_b72d1 : MethodName := ⟨RJ2, "putCharSB", "([BII)V"⟩
abbrev cJ2_getChars_46870 : ByteArray := prog_37_method_77_code
def yJ2_getChars_46870 : MethodName := ⟨RJ2, "getChars", "(III[B)I"⟩
abbrev cJ2_putCharsAt_cd4e5 : ByteArray := prog_37_method_81_code
def yJ2_putCharsAt_cd4e5 : MethodName := ⟨RJ2, "putCharsAt", "([BICCCC)I"⟩
abbrev cJ2_charAt_3b067 : ByteArray := prog_37_method_83_code
def yJ2_charAt_3b067 : MethodName := ⟨RJ2, "charAt", "([BI)C"⟩
abbrev cJ2_inflate_0e8fd : ByteArray := prog_37_method_86_code
def yJ2_inflate_0e8fd : MethodName := ⟨RJ2, "inflate", "([BI[BII)V"⟩
abbrev cJ2_getChars_ba4f3 : ByteArray := prog_37_method_89_code
def yJ2_getChars_ba4f3 : MethodName := ⟨RJ2, "getChars", "(II[B)I"⟩
abbrev cJ2_checkIndex_2214a : ByteArray := prog_37_method_91_code
def yJ2_checkIndex_2214a : MethodName := ⟨RJ2, "checkIndex", "(I[B)V"⟩
abbrev cJ2_checkBoundsBeginEnd_d044e : ByteArray := prog_37_method_93_code
def yJ2_checkBoundsBeginEnd_d044e : MethodName := ⟨RJ2, "checkBoundsBeginEnd", "(II[B)V"⟩
abbrev cJ2_checkBoundsOffCount_d044e : ByteArray := prog_37_method_94_code
def yJ2_checkBoundsOffCount_d044e : MethodName := ⟨RJ2, "checkBoundsOffCount", "(II[B)V"⟩
def RJ10 : String := "java/lang/System"
def TJ10 : u_T := fun k => match k with
  | _ => ("", "", "", false)
def tyJ10 : Nat → FieldType := fun k => match k with
  | _ => .int
abbrev wsJ100 : List Cond := u_ws RJ10 TJ10 0
theorem nmJ10 : ∀ a, a < 0 → ∀ b, b < 0 → a ≠ b → (TJ10 a).2.1 ≠ (TJ10 b).2.1 := by decide +kernel
theorem tyJ10_ok : ∀ k, k < 0 → parseFieldDescriptor (TJ10 k).2.2.1 = some (tyJ10 k) := by decide +kernel
def RJxfd54e : String := "java/lang/constant/Constable"
def TJxfd54e : u_T := fun k => match k with
  | _ => ("", "", "", false)
def tyJxfd54e : Nat → FieldType := fun k => match k with
  | _ => .int
abbrev wsJxfd54e0 : List Cond := u_ws RJxfd54e TJxfd54e 0
theorem nmJxfd54e : ∀ a, a < 0 → ∀ b, b < 0 → a ≠ b → (TJxfd54e a).2.1 ≠ (TJxfd54e b).2.1 := by decide +kernel
theorem tyJxfd54e_ok : ∀ k, k < 0 → parseFieldDescriptor (TJxfd54e k).2.2.1 = some (tyJxfd54e k) := by decide +kernel
def RJx3cf43 : String := "java/lang/constant/ConstantDesc"
def TJx3cf43 : u_T := fun k => match k with
  | _ => ("", "", "", false)
def tyJx3cf43 : Nat → FieldType := fun k => match k with
  | _ => .int
abbrev wsJx3cf430 : List Cond := u_ws RJx3cf43 TJx3cf43 0
theorem nmJx3cf43 : ∀ a, a < 0 → ∀ b, b < 0 → a ≠ b → (TJx3cf43 a).2.1 ≠ (TJx3cf43 b).2.1 := by decide +kernel
theorem tyJx3cf43_ok : ∀ k, k < 0 → parseFieldDescriptor (TJx3cf43 k).2.2.1 = some (tyJx3cf43 k) := by decide +kernel
def RJ7 : String := "java/util/Arrays"
def TJ7 : u_T := fun k => match k with
  | _ => ("", "", "", false)
def tyJ7 : Nat → FieldType := fun k => match k with
  | _ => .int
abbrev wsJ70 : List Cond := u_ws RJ7 TJ7 0
theorem nmJ7 : ∀ a, a < 0 → ∀ b, b < 0 → a ≠ b → (TJ7 a).2.1 ≠ (TJ7 b).2.1 := by decide +kernel
theorem tyJ7_ok : ∀ k, k < 0 → parseFieldDescriptor (TJ7 k).2.2.1 = some (tyJ7 k) := by decide +kernel
abbrev cJ7_rangeCheck_23922 : ByteArray := prog_43_method_30_code
def yJ7_rangeCheck_23922 : MethodName := ⟨RJ7, "rangeCheck", "(III)V"⟩
abbrev cJ7_fill_53178 : ByteArray := prog_43_method_103_code
def yJ7_fill_53178 : MethodName := ⟨RJ7, "fill", "([II)V"⟩
abbrev cJ7_fill_eb02e : ByteArray := prog_43_method_110_code
def yJ7_fill_eb02e : MethodName := ⟨RJ7, "fill", "([BIIB)V"⟩
abbrev cJ7_copyOf_9075b : ByteArray := prog_43_method_121_code
def yJ7_copyOf_9075b : MethodName := ⟨RJ7, "copyOf", "([BI)[B"⟩
abbrev cJ7_checkLength_df160 : ByteArray := prog_43_method_131_code
def yJ7_checkLength_df160 : MethodName := ⟨RJ7, "checkLength", "(II)V"⟩
abbrev cJ7_copyOfRange_39247 : ByteArray := prog_43_method_132_code
def yJ7_copyOfRange_39247 : MethodName := ⟨RJ7, "copyOfRange", "([BII)[B"⟩
abbrev cJ7_copyOfRangeByte_39247 : ByteArray := prog_43_method_133_code
def yJ7_copyOfRangeByte_39247 : MethodName := ⟨RJ7, "copyOfRangeByte", "([BII)[B"⟩
def RJ8 : String := "jdk/internal/util/ArraysSupport"
def TJ8 : u_T := fun k => match k with
  | _ => ("", "", "", false)
def tyJ8 : Nat → FieldType := fun k => match k with
  | _ => .int
abbrev wsJ80 : List Cond := u_ws RJ8 TJ8 0
theorem nmJ8 : ∀ a, a < 0 → ∀ b, b < 0 → a ≠ b → (TJ8 a).2.1 ≠ (TJ8 b).2.1 := by decide +kernel
theorem tyJ8_ok : ∀ k, k < 0 → parseFieldDescriptor (TJ8 k).2.2.1 = some (tyJ8 k) := by decide +kernel
abbrev cJ8_newLength_cabcc : ByteArray := prog_45_method_27_code
def yJ8_newLength_cabcc : MethodName := ⟨RJ8, "newLength", "(III)I"⟩
abbrev cJ8_hugeLength_7cf53 : ByteArray := prog_45_method_28_code
def yJ8_hugeLength_7cf53 : MethodName := ⟨RJ8, "hugeLength", "(II)I"⟩
def RJ3 : String := "jdk/internal/util/Preconditions"
def TJ3 : u_T := fun k => match k with
  | _ => ("", "", "", false)
def tyJ3 : Nat → FieldType := fun k => match k with
  | _ => .int
abbrev wsJ30 : List Cond := u_ws RJ3 TJ3 0
theorem nmJ3 : ∀ a, a < 0 → ∀ b, b < 0 → a ≠ b → (TJ3 a).2.1 ≠ (TJ3 b).2.1 := by decide +kernel
theorem tyJ3_ok : ∀ k, k < 0 → parseFieldDescriptor (TJ3 k).2.2.1 = some (tyJ3 k) := by decide +kernel
abbrev cJ3_checkIndex_8e157 : ByteArray := prog_46_method_11_code
def yJ3_checkIndex_8e157 : MethodName := ⟨RJ3, "checkIndex", "(IILjava/util/function/BiFunction;)I"⟩
abbrev cJ3_checkFromToIndex_8c36e : ByteArray := prog_46_method_12_code
def yJ3_checkFromToIndex_8c36e : MethodName := ⟨RJ3, "checkFromToIndex", "(IIILjava/util/function/BiFunction;)I"⟩
abbrev cJ3_checkFromIndexSize_8c36e : ByteArray := prog_46_method_13_code
def yJ3_checkFromIndexSize_8c36e : MethodName := ⟨RJ3, "checkFromIndexSize", "(IIILjava/util/function/BiFunction;)I"⟩
def RL : String := "DebtClearingLaw"
abbrev cL_at : ByteArray := method_2_code
def yL_at : MethodName := ⟨RL, "at", "([II)I"⟩
abbrev cL_some : ByteArray := method_3_code
def yL_some : MethodName := ⟨RL, "some", "(II)I"⟩
abbrev cL_addMember : ByteArray := method_4_code
def yL_addMember : MethodName := ⟨RL, "addMember", "(LDebtClearing;)I"⟩
abbrev cL_addDebt : ByteArray := method_5_code
def yL_addDebt : MethodName := ⟨RL, "addDebt", "(LDebtClearing;III)I"⟩
abbrev cL_pay : ByteArray := method_6_code
def yL_pay : MethodName := ⟨RL, "pay", "(LDebtClearing;III)I"⟩
abbrev cL_netPair : ByteArray := method_7_code
def yL_netPair : MethodName := ⟨RL, "netPair", "(LDebtClearing;II)I"⟩
abbrev cL_netTriangle : ByteArray := method_8_code
def yL_netTriangle : MethodName := ⟨RL, "netTriangle", "(LDebtClearing;III)I"⟩
abbrev cL_pledge : ByteArray := method_9_code
def yL_pledge : MethodName := ⟨RL, "pledge", "(LDebtClearing;II)I"⟩
abbrev cL_setLimit : ByteArray := method_10_code
def yL_setLimit : MethodName := ⟨RL, "setLimit", "(LDebtClearing;II)I"⟩
abbrev cL_setHaircut : ByteArray := method_11_code
def yL_setHaircut : MethodName := ⟨RL, "setHaircut", "(LDebtClearing;I)I"⟩
abbrev cL_fail : ByteArray := method_12_code
def yL_fail : MethodName := ⟨RL, "fail", "(LDebtClearing;I)I"⟩
abbrev cL_coins : ByteArray := method_13_code
def yL_coins : MethodName := ⟨RL, "coins", "(LDebtClearing;I)I"⟩
abbrev cL_collateral : ByteArray := method_14_code
def yL_collateral : MethodName := ⟨RL, "collateral", "(LDebtClearing;I)I"⟩
abbrev cL_cover : ByteArray := method_15_code
def yL_cover : MethodName := ⟨RL, "cover", "(LDebtClearing;I)I"⟩
abbrev cL_limit : ByteArray := method_16_code
def yL_limit : MethodName := ⟨RL, "limit", "(LDebtClearing;I)I"⟩
abbrev cL_isFailed : ByteArray := method_17_code
def yL_isFailed : MethodName := ⟨RL, "isFailed", "(LDebtClearing;I)I"⟩
abbrev cL_owed : ByteArray := method_18_code
def yL_owed : MethodName := ⟨RL, "owed", "(LDebtClearing;II)I"⟩
abbrev cL_debit : ByteArray := method_19_code
def yL_debit : MethodName := ⟨RL, "debit", "(LDebtClearing;I)I"⟩
abbrev cL_credit : ByteArray := method_20_code
def yL_credit : MethodName := ⟨RL, "credit", "(LDebtClearing;I)I"⟩
abbrev cL_position : ByteArray := method_21_code
def yL_position : MethodName := ⟨RL, "position", "(LDebtClearing;I)I"⟩
abbrev cL_byAccount : ByteArray := method_22_code
def yL_byAccount : MethodName := ⟨RL, "byAccount", "(LDebtClearing;I)I"⟩
abbrev cL_largestDebtor : ByteArray := method_23_code
def yL_largestDebtor : MethodName := ⟨RL, "largestDebtor", "(LDebtClearing;)I"⟩
abbrev cL_largestCreditor : ByteArray := method_24_code
def yL_largestCreditor : MethodName := ⟨RL, "largestCreditor", "(LDebtClearing;)I"⟩
abbrev cL_reachCount : ByteArray := method_25_code
def yL_reachCount : MethodName := ⟨RL, "reachCount", "(LDebtClearing;I)I"⟩
abbrev cL_reachByRounds : ByteArray := method_26_code
def yL_reachByRounds : MethodName := ⟨RL, "reachByRounds", "(LDebtClearing;I)I"⟩
abbrev cL_reaches : ByteArray := method_27_code
def yL_reaches : MethodName := ⟨RL, "reaches", "(LDebtClearing;II)I"⟩
abbrev cL_lossIf : ByteArray := method_28_code
def yL_lossIf : MethodName := ⟨RL, "lossIf", "(LDebtClearing;I)I"⟩
abbrev cL_shareIf : ByteArray := method_29_code
def yL_shareIf : MethodName := ⟨RL, "shareIf", "(LDebtClearing;II)I"⟩
abbrev cL_byPosition : ByteArray := method_30_code
def yL_byPosition : MethodName := ⟨RL, "byPosition", "(LDebtClearing;I)I"⟩
abbrev cL_meanPosition : ByteArray := method_31_code
def yL_meanPosition : MethodName := ⟨RL, "meanPosition", "(LDebtClearing;)D"⟩
abbrev cL_debtShare : ByteArray := method_32_code
def yL_debtShare : MethodName := ⟨RL, "debtShare", "(LDebtClearing;)F"⟩
abbrev cL_feed : ByteArray := method_33_code
def yL_feed : MethodName := ⟨RL, "feed", "(LDebtClearing;C)I"⟩
abbrev cL_run : ByteArray := method_34_code
def yL_run : MethodName := ⟨RL, "run", "(LDebtClearing;)I"⟩
abbrev cL_errorPosition : ByteArray := method_35_code
def yL_errorPosition : MethodName := ⟨RL, "errorPosition", "(LDebtClearing;)I"⟩
abbrev cL_failedCommand : ByteArray := method_36_code
def yL_failedCommand : MethodName := ⟨RL, "failedCommand", "(LDebtClearing;)I"⟩
abbrev cL_writeDebts : ByteArray := method_37_code
def yL_writeDebts : MethodName := ⟨RL, "writeDebts", "(LDebtClearing;I)I"⟩
abbrev cL_outputChar : ByteArray := method_38_code
def yL_outputChar : MethodName := ⟨RL, "outputChar", "(LDebtClearing;I)I"⟩
abbrev cL_undo : ByteArray := method_39_code
def yL_undo : MethodName := ⟨RL, "undo", "(LDebtClearing;)I"⟩
abbrev cL_restore : ByteArray := method_40_code
def yL_restore : MethodName := ⟨RL, "restore", "(LDebtClearing;)I"⟩
