def RX0 : String := "Voucherworks$Campaigns"
def TX0 : u_T := fun k => match k with
  | 0 => ("Voucherworks$Campaigns", "isPercent", "[Z", true)
  | 1 => ("Voucherworks$Campaigns", "value", "[I", true)
  | 2 => ("Voucherworks$Campaigns", "least", "[I", true)
  | 3 => ("Voucherworks$Campaigns", "barred", "[I", true)
  | 4 => ("Voucherworks$Campaigns", "got", "[[I", true)
  | 5 => ("Voucherworks$Campaigns", "lowest", "I", false)
  | 6 => ("Voucherworks$Campaigns", "sizeForLowest", "I", false)
  | _ => ("Voucherworks$Campaigns", "count", "I", false)
def tyX0 : Nat → FieldType := fun k => match k with
  | 0 => .array .boolean
  | 1 => .array .int
  | 2 => .array .int
  | 3 => .array .int
  | 4 => .array (.array .int)
  | 5 => .int
  | 6 => .int
  | _ => .int
abbrev wsX00 : List Cond := u_ws RX0 TX0 8
theorem nmX0 : ∀ a, a < 8 → ∀ b, b < 8 → a ≠ b → (TX0 a).2.1 ≠ (TX0 b).2.1 := by decide +kernel
theorem tyX0_ok : ∀ k, k < 8 → parseFieldDescriptor (TX0 k).2.2.1 = some (tyX0 k) := by decide +kernel
abbrev cX0_init : ByteArray := prog_2_method_1_code
def yX0_init : MethodName := ⟨RX0, "<init>", "()V"⟩
abbrev cX0_add : ByteArray := prog_2_method_2_code
def yX0_add : MethodName := ⟨RX0, "add", "(ZII)I"⟩
abbrev cX0_isBarring : ByteArray := prog_2_method_3_code
def yX0_isBarring : MethodName := ⟨RX0, "isBarring", "(II)Z"⟩
abbrev cX0_setBarring : ByteArray := prog_2_method_4_code
def yX0_setBarring : MethodName := ⟨RX0, "setBarring", "(IIZ)V"⟩
abbrev cX0_reduced : ByteArray := prog_2_method_5_code
def yX0_reduced : MethodName := ⟨RX0, "reduced", "(II)I"⟩
abbrev cX0_leastByOrders : ByteArray := prog_2_method_6_code
def yX0_leastByOrders : MethodName := ⟨RX0, "leastByOrders", "(I)I"⟩
abbrev cX0_leastFrom : ByteArray := prog_2_method_7_code
def yX0_leastFrom : MethodName := ⟨RX0, "leastFrom", "(LVoucherworks$Campaigns;III)I"⟩
abbrev cX0_lookAtAllSets : ByteArray := prog_2_method_8_code
def yX0_lookAtAllSets : MethodName := ⟨RX0, "lookAtAllSets", "(I)V"⟩
abbrev cX0_isWithoutBars : ByteArray := prog_2_method_9_code
def yX0_isWithoutBars : MethodName := ⟨RX0, "isWithoutBars", "(I)Z"⟩
abbrev cX0_markPricesOf : ByteArray := prog_2_method_10_code
def yX0_markPricesOf : MethodName := ⟨RX0, "markPricesOf", "(I)V"⟩
abbrev cX0_applyToWord : ByteArray := prog_2_method_11_code
def yX0_applyToWord : MethodName := ⟨RX0, "applyToWord", "(IIII)V"⟩
abbrev cX0_mark : ByteArray := prog_2_method_12_code
def yX0_mark : MethodName := ⟨RX0, "mark", "(II)V"⟩
def RX1 : String := "Voucherworks$Cards"
def TX1 : u_T := fun k => match k with
  | 0 => ("Voucherworks$Cards", "chain", "[I", true)
  | 1 => ("Voucherworks$Cards", "land", "[I", true)
  | 2 => ("Voucherworks$Cards", "life", "[I", true)
  | 3 => ("Voucherworks$Cards", "fee", "[I", true)
  | 4 => ("Voucherworks$Cards", "share", "[I", true)
  | 5 => ("Voucherworks$Cards", "state", "[I", true)
  | 6 => ("Voucherworks$Cards", "use", "[I", true)
  | 7 => ("Voucherworks$Cards", "misses", "[I", true)
  | 8 => ("Voucherworks$Cards", "converted", "[I", true)
  | _ => ("Voucherworks$Cards", "count", "I", false)
def tyX1 : Nat → FieldType := fun k => match k with
  | 0 => .array .int
  | 1 => .array .int
  | 2 => .array .int
  | 3 => .array .int
  | 4 => .array .int
  | 5 => .array .int
  | 6 => .array .int
  | 7 => .array .int
  | 8 => .array .int
  | _ => .int
abbrev wsX10 : List Cond := u_ws RX1 TX1 10
theorem nmX1 : ∀ a, a < 10 → ∀ b, b < 10 → a ≠ b → (TX1 a).2.1 ≠ (TX1 b).2.1 := by decide +kernel
theorem tyX1_ok : ∀ k, k < 10 → parseFieldDescriptor (TX1 k).2.2.1 = some (tyX1 k) := by decide +kernel
abbrev cX1_init : ByteArray := prog_3_method_1_code
def yX1_init : MethodName := ⟨RX1, "<init>", "()V"⟩
abbrev cX1_add : ByteArray := prog_3_method_2_code
def yX1_add : MethodName := ⟨RX1, "add", "(IILVoucherworks$Lands;)I"⟩
abbrev cX1_code : ByteArray := prog_3_method_3_code
def yX1_code : MethodName := ⟨RX1, "code", "(I)I"⟩
abbrev cX1_addMiss : ByteArray := prog_3_method_4_code
def yX1_addMiss : MethodName := ⟨RX1, "addMiss", "(I)V"⟩
def RX2 : String := "Voucherworks$Chains"
def TX2 : u_T := fun k => match k with
  | 0 => ("Voucherworks$Chains", "isDead", "[Z", true)
  | 1 => ("Voucherworks$Chains", "rate", "[I", true)
  | 2 => ("Voucherworks$Chains", "received", "[I", true)
  | 3 => ("Voucherworks$Chains", "given", "[I", true)
  | 4 => ("Voucherworks$Chains", "income", "[I", true)
  | 5 => ("Voucherworks$Chains", "gone", "[I", true)
  | 6 => ("Voucherworks$Chains", "paidOut", "[I", true)
  | 7 => ("Voucherworks$Chains", "lost", "[I", true)
  | _ => ("Voucherworks$Chains", "due", "[[I", true)
def tyX2 : Nat → FieldType := fun k => match k with
  | 0 => .array .boolean
  | 1 => .array .int
  | 2 => .array .int
  | 3 => .array .int
  | 4 => .array .int
  | 5 => .array .int
  | 6 => .array .int
  | 7 => .array .int
  | _ => .array (.array .int)
abbrev wsX20 : List Cond := u_ws RX2 TX2 9
theorem nmX2 : ∀ a, a < 9 → ∀ b, b < 9 → a ≠ b → (TX2 a).2.1 ≠ (TX2 b).2.1 := by decide +kernel
theorem tyX2_ok : ∀ k, k < 9 → parseFieldDescriptor (TX2 k).2.2.1 = some (tyX2 k) := by decide +kernel
abbrev cX2_init : ByteArray := prog_4_method_1_code
def yX2_init : MethodName := ⟨RX2, "<init>", "()V"⟩
abbrev cX2_balanceOfAccounts : ByteArray := prog_4_method_2_code
def yX2_balanceOfAccounts : MethodName := ⟨RX2, "balanceOfAccounts", "(I)I"⟩
def RX3 : String := "Voucherworks$Lands"
def TX3 : u_T := fun k => match k with
  | 0 => ("Voucherworks$Lands", "life", "[I", true)
  | 1 => ("Voucherworks$Lands", "fee", "[I", true)
  | _ => ("Voucherworks$Lands", "share", "[I", true)
def tyX3 : Nat → FieldType := fun k => match k with
  | 0 => .array .int
  | 1 => .array .int
  | _ => .array .int
abbrev wsX30 : List Cond := u_ws RX3 TX3 3
theorem nmX3 : ∀ a, a < 3 → ∀ b, b < 3 → a ≠ b → (TX3 a).2.1 ≠ (TX3 b).2.1 := by decide +kernel
theorem tyX3_ok : ∀ k, k < 3 → parseFieldDescriptor (TX3 k).2.2.1 = some (tyX3 k) := by decide +kernel
abbrev cX3_init : ByteArray := prog_5_method_1_code
def yX3_init : MethodName := ⟨RX3, "<init>", "()V"⟩
def RX4 : String := "Voucherworks$Lots"
def TX4 : u_T := fun k => match k with
  | 0 => ("Voucherworks$Lots", "card", "[I", true)
  | 1 => ("Voucherworks$Lots", "origin", "[I", true)
  | 2 => ("Voucherworks$Lots", "left", "[I", true)
  | 3 => ("Voucherworks$Lots", "begin", "[I", true)
  | 4 => ("Voucherworks$Lots", "end", "[I", true)
  | 5 => ("Voucherworks$Lots", "row", "[I", true)
  | 6 => ("Voucherworks$Lots", "drawn", "[I", true)
  | _ => ("Voucherworks$Lots", "count", "I", false)
def tyX4 : Nat → FieldType := fun k => match k with
  | 0 => .array .int
  | 1 => .array .int
  | 2 => .array .int
  | 3 => .array .int
  | 4 => .array .int
  | 5 => .array .int
  | 6 => .array .int
  | _ => .int
abbrev wsX40 : List Cond := u_ws RX4 TX4 8
theorem nmX4 : ∀ a, a < 8 → ∀ b, b < 8 → a ≠ b → (TX4 a).2.1 ≠ (TX4 b).2.1 := by decide +kernel
theorem tyX4_ok : ∀ k, k < 8 → parseFieldDescriptor (TX4 k).2.2.1 = some (tyX4 k) := by decide +kernel
abbrev cX4_init : ByteArray := prog_6_method_1_code
def yX4_init : MethodName := ⟨RX4, "<init>", "()V"⟩
abbrev cX4_isFull : ByteArray := prog_6_method_2_code
def yX4_isFull : MethodName := ⟨RX4, "isFull", "()Z"⟩
abbrev cX4_add : ByteArray := prog_6_method_3_code
def yX4_add : MethodName := ⟨RX4, "add", "(IIIII)V"⟩
abbrev cX4_balance : ByteArray := prog_6_method_4_code
def yX4_balance : MethodName := ⟨RX4, "balance", "(I)I"⟩
abbrev cX4_moveAll : ByteArray := prog_6_method_5_code
def yX4_moveAll : MethodName := ⟨RX4, "moveAll", "(II)V"⟩
abbrev cX4_hasExpired : ByteArray := prog_6_method_6_code
def yX4_hasExpired : MethodName := ⟨RX4, "hasExpired", "(II)Z"⟩
abbrev cX4_isAhead : ByteArray := prog_6_method_7_code
def yX4_isAhead : MethodName := ⟨RX4, "isAhead", "(II)Z"⟩
abbrev cX4_putInRow : ByteArray := prog_6_method_8_code
def yX4_putInRow : MethodName := ⟨RX4, "putInRow", "(II)V"⟩
abbrev cX4_putInOrder : ByteArray := prog_6_method_9_code
def yX4_putInOrder : MethodName := ⟨RX4, "putInOrder", "(I)I"⟩
abbrev cX4_takeInOrder : ByteArray := prog_6_method_10_code
def yX4_takeInOrder : MethodName := ⟨RX4, "takeInOrder", "(II)V"⟩
abbrev cX4_planBack : ByteArray := prog_6_method_11_code
def yX4_planBack : MethodName := ⟨RX4, "planBack", "([II)V"⟩
abbrev cX4_plannedForExpired : ByteArray := prog_6_method_12_code
def yX4_plannedForExpired : MethodName := ⟨RX4, "plannedForExpired", "(I)I"⟩
abbrev cX4_putBackUnexpired : ByteArray := prog_6_method_13_code
def yX4_putBackUnexpired : MethodName := ⟨RX4, "putBackUnexpired", "(I)V"⟩
abbrev cX4_breakage : ByteArray := prog_6_method_14_code
def yX4_breakage : MethodName := ⟨RX4, "breakage", "(III)I"⟩
def RX5 : String := "Voucherworks$Payments"
def TX5 : u_T := fun k => match k with
  | 0 => ("Voucherworks$Payments", "card", "[I", true)
  | 1 => ("Voucherworks$Payments", "took", "[I", true)
  | 2 => ("Voucherworks$Payments", "net", "[I", true)
  | 3 => ("Voucherworks$Payments", "month", "[I", true)
  | 4 => ("Voucherworks$Payments", "open", "[[I", true)
  | _ => ("Voucherworks$Payments", "count", "I", false)
def tyX5 : Nat → FieldType := fun k => match k with
  | 0 => .array .int
  | 1 => .array .int
  | 2 => .array .int
  | 3 => .array .int
  | 4 => .array (.array .int)
  | _ => .int
abbrev wsX50 : List Cond := u_ws RX5 TX5 6
theorem nmX5 : ∀ a, a < 6 → ∀ b, b < 6 → a ≠ b → (TX5 a).2.1 ≠ (TX5 b).2.1 := by decide +kernel
theorem tyX5_ok : ∀ k, k < 6 → parseFieldDescriptor (TX5 k).2.2.1 = some (tyX5 k) := by decide +kernel
abbrev cX5_init : ByteArray := prog_7_method_1_code
def yX5_init : MethodName := ⟨RX5, "<init>", "()V"⟩
abbrev cX5_add : ByteArray := prog_7_method_2_code
def yX5_add : MethodName := ⟨RX5, "add", "(III[I)I"⟩
abbrev cX5_takeFromOpen : ByteArray := prog_7_method_3_code
def yX5_takeFromOpen : MethodName := ⟨RX5, "takeFromOpen", "(I[I)V"⟩
abbrev cX5_moveAll : ByteArray := prog_7_method_4_code
def yX5_moveAll : MethodName := ⟨RX5, "moveAll", "(II)V"⟩
abbrev cX5_marks : ByteArray := prog_7_method_5_code
def yX5_marks : MethodName := ⟨RX5, "marks", "(I)I"⟩
abbrev cX5_marksOfCard : ByteArray := prog_7_method_6_code
def yX5_marksOfCard : MethodName := ⟨RX5, "marksOfCard", "(IIZ)I"⟩
abbrev cX5_isPending : ByteArray := prog_7_method_7_code
def yX5_isPending : MethodName := ⟨RX5, "isPending", "(II)Z"⟩
def RX6 : String := "Voucherworks"
def TX6 : u_T := fun k => match k with
  | 0 => ("Voucherworks", "lands", "LVoucherworks$Lands;", true)
  | 1 => ("Voucherworks", "chains", "LVoucherworks$Chains;", true)
  | 2 => ("Voucherworks", "cards", "LVoucherworks$Cards;", true)
  | 3 => ("Voucherworks", "lots", "LVoucherworks$Lots;", true)
  | 4 => ("Voucherworks", "campaigns", "LVoucherworks$Campaigns;", true)
  | 5 => ("Voucherworks", "payments", "LVoucherworks$Payments;", true)
  | _ => ("Voucherworks", "now", "I", false)
def tyX6 : Nat → FieldType := fun k => match k with
  | 0 => .object "Voucherworks$Lands"
  | 1 => .object "Voucherworks$Chains"
  | 2 => .object "Voucherworks$Cards"
  | 3 => .object "Voucherworks$Lots"
  | 4 => .object "Voucherworks$Campaigns"
  | 5 => .object "Voucherworks$Payments"
  | _ => .int
abbrev wsX60 : List Cond := u_ws RX6 TX6 7
theorem nmX6 : ∀ a, a < 7 → ∀ b, b < 7 → a ≠ b → (TX6 a).2.1 ≠ (TX6 b).2.1 := by decide +kernel
theorem tyX6_ok : ∀ k, k < 7 → parseFieldDescriptor (TX6 k).2.2.1 = some (tyX6 k) := by decide +kernel
abbrev cX6_init : ByteArray := prog_1_method_1_code
def yX6_init : MethodName := ⟨RX6, "<init>", "()V"⟩
abbrev cX6_law : ByteArray := prog_1_method_2_code
def yX6_law : MethodName := ⟨RX6, "law", "(IIII)I"⟩
abbrev cX6_rate : ByteArray := prog_1_method_3_code
def yX6_rate : MethodName := ⟨RX6, "rate", "(II)I"⟩
abbrev cX6_sell : ByteArray := prog_1_method_4_code
def yX6_sell : MethodName := ⟨RX6, "sell", "(III)I"⟩
abbrev cX6_load : ByteArray := prog_1_method_5_code
def yX6_load : MethodName := ⟨RX6, "load", "(IIZ)I"⟩
abbrev cX6_campaign : ByteArray := prog_1_method_6_code
def yX6_campaign : MethodName := ⟨RX6, "campaign", "(ZII)I"⟩
abbrev cX6_bar : ByteArray := prog_1_method_7_code
def yX6_bar : MethodName := ⟨RX6, "bar", "(IIZ)Z"⟩
abbrev cX6_best : ByteArray := prog_1_method_8_code
def yX6_best : MethodName := ⟨RX6, "best", "(I)I"⟩
abbrev cX6_bestAnew : ByteArray := prog_1_method_9_code
def yX6_bestAnew : MethodName := ⟨RX6, "bestAnew", "(I)I"⟩
abbrev cX6_fewest : ByteArray := prog_1_method_10_code
def yX6_fewest : MethodName := ⟨RX6, "fewest", "(I)I"⟩
abbrev cX6_pay : ByteArray := prog_1_method_11_code
def yX6_pay : MethodName := ⟨RX6, "pay", "(II)I"⟩
abbrev cX6_whyNot : ByteArray := prog_1_method_12_code
def yX6_whyNot : MethodName := ⟨RX6, "whyNot", "(II)I"⟩
abbrev cX6_giveBack : ByteArray := prog_1_method_13_code
def yX6_giveBack : MethodName := ⟨RX6, "giveBack", "(II)I"⟩
abbrev cX6_convert : ByteArray := prog_1_method_14_code
def yX6_convert : MethodName := ⟨RX6, "convert", "(II)I"⟩
abbrev cX6_join : ByteArray := prog_1_method_15_code
def yX6_join : MethodName := ⟨RX6, "join", "(II)I"⟩
abbrev cX6_attempt : ByteArray := prog_1_method_16_code
def yX6_attempt : MethodName := ⟨RX6, "attempt", "(II)Z"⟩
abbrev cX6_free : ByteArray := prog_1_method_17_code
def yX6_free : MethodName := ⟨RX6, "free", "(I)Z"⟩
abbrev cX6_pass : ByteArray := prog_1_method_18_code
def yX6_pass : MethodName := ⟨RX6, "pass", "()I"⟩
abbrev cX6_die : ByteArray := prog_1_method_19_code
def yX6_die : MethodName := ⟨RX6, "die", "(II)I"⟩
abbrev cX6_month : ByteArray := prog_1_method_20_code
def yX6_month : MethodName := ⟨RX6, "month", "()I"⟩
abbrev cX6_ofCard : ByteArray := prog_1_method_21_code
def yX6_ofCard : MethodName := ⟨RX6, "ofCard", "(II)I"⟩
abbrev cX6_ofLot : ByteArray := prog_1_method_22_code
def yX6_ofLot : MethodName := ⟨RX6, "ofLot", "(II)I"⟩
abbrev cX6_orderAt : ByteArray := prog_1_method_23_code
def yX6_orderAt : MethodName := ⟨RX6, "orderAt", "(II)I"⟩
abbrev cX6_ofPayment : ByteArray := prog_1_method_24_code
def yX6_ofPayment : MethodName := ⟨RX6, "ofPayment", "(II)I"⟩
abbrev cX6_taken : ByteArray := prog_1_method_25_code
def yX6_taken : MethodName := ⟨RX6, "taken", "(II)I"⟩
abbrev cX6_ofChain : ByteArray := prog_1_method_26_code
def yX6_ofChain : MethodName := ⟨RX6, "ofChain", "(II)I"⟩
abbrev cX6_owed : ByteArray := prog_1_method_27_code
def yX6_owed : MethodName := ⟨RX6, "owed", "(II)I"⟩
abbrev cX6_leftAnew : ByteArray := prog_1_method_28_code
def yX6_leftAnew : MethodName := ⟨RX6, "leftAnew", "(I)I"⟩
abbrev cX6_booked : ByteArray := prog_1_method_29_code
def yX6_booked : MethodName := ⟨RX6, "booked", "(I)I"⟩
abbrev cX6_needPlace : ByteArray := prog_1_method_30_code
def yX6_needPlace : MethodName := ⟨RX6, "needPlace", "(II)V"⟩
abbrev cX6_needRange : ByteArray := prog_1_method_31_code
def yX6_needRange : MethodName := ⟨RX6, "needRange", "(III)V"⟩
abbrev cX6_needMultiple : ByteArray := prog_1_method_32_code
def yX6_needMultiple : MethodName := ⟨RX6, "needMultiple", "(II)V"⟩
abbrev cX6_needUnlike : ByteArray := prog_1_method_33_code
def yX6_needUnlike : MethodName := ⟨RX6, "needUnlike", "(II)V"⟩
abbrev cX6_refuseIf : ByteArray := prog_1_method_34_code
def yX6_refuseIf : MethodName := ⟨RX6, "refuseIf", "(Z)V"⟩
abbrev cX6_reasonAgainst : ByteArray := prog_1_method_35_code
def yX6_reasonAgainst : MethodName := ⟨RX6, "reasonAgainst", "(II)I"⟩
abbrev cX6_isOfDead : ByteArray := prog_1_method_36_code
def yX6_isOfDead : MethodName := ⟨RX6, "isOfDead", "(I)Z"⟩
abbrev cX6_isOfChain : ByteArray := prog_1_method_37_code
def yX6_isOfChain : MethodName := ⟨RX6, "isOfChain", "(II)Z"⟩
abbrev cX6_addBought : ByteArray := prog_1_method_38_code
def yX6_addBought : MethodName := ⟨RX6, "addBought", "(II)V"⟩
abbrev cX6_addGift : ByteArray := prog_1_method_39_code
def yX6_addGift : MethodName := ⟨RX6, "addGift", "(IIII)V"⟩
abbrev cX6_marksOf : ByteArray := prog_1_method_40_code
def yX6_marksOf : MethodName := ⟨RX6, "marksOf", "(I)I"⟩
abbrev cX6_endLots : ByteArray := prog_1_method_41_code
def yX6_endLots : MethodName := ⟨RX6, "endLots", "(I)V"⟩
abbrev cX6_endLot : ByteArray := prog_1_method_42_code
def yX6_endLot : MethodName := ⟨RX6, "endLot", "(II)V"⟩
abbrev cX6_takeFee : ByteArray := prog_1_method_43_code
def yX6_takeFee : MethodName := ⟨RX6, "takeFee", "(I)V"⟩
abbrev cX6_payOut : ByteArray := prog_1_method_44_code
def yX6_payOut : MethodName := ⟨RX6, "payOut", "(III)I"⟩
abbrev cX6_claimOf : ByteArray := prog_1_method_45_code
def yX6_claimOf : MethodName := ⟨RX6, "claimOf", "(II)I"⟩
abbrev cX6_leftOf : ByteArray := prog_1_method_46_code
def yX6_leftOf : MethodName := ⟨RX6, "leftOf", "(I)I"⟩
abbrev cX6_netOf : ByteArray := prog_1_method_47_code
def yX6_netOf : MethodName := ⟨RX6, "netOf", "(I)I"⟩
def RX7 : String := "VoucherworksModel"
def TX7 : u_T := fun k => match k with
  | _ => ("", "", "", false)
def tyX7 : Nat → FieldType := fun k => match k with
  | _ => .int
abbrev wsX70 : List Cond := u_ws RX7 TX7 0
theorem nmX7 : ∀ a, a < 0 → ∀ b, b < 0 → a ≠ b → (TX7 a).2.1 ≠ (TX7 b).2.1 := by decide +kernel
theorem tyX7_ok : ∀ k, k < 0 → parseFieldDescriptor (TX7 k).2.2.1 = some (tyX7 k) := by decide +kernel
def RJx145de : String := "java/io/Serializable"
def TJx145de : u_T := fun k => match k with
  | _ => ("", "", "", false)
def tyJx145de : Nat → FieldType := fun k => match k with
  | _ => .int
theorem nmJx145de : ∀ a, a < 0 → ∀ b, b < 0 → a ≠ b → (TJx145de a).2.1 ≠ (TJx145de b).2.1 := by decide +kernel
theorem tyJx145de_ok : ∀ k, k < 0 → parseFieldDescriptor (TJx145de k).2.2.1 = some (tyJx145de k) := by decide +kernel
def RJ6 : String := "java/lang/Integer"
def TJ6 : u_T := fun k => match k with
  | _ => ("", "", "", false)
def tyJ6 : Nat → FieldType := fun k => match k with
  | _ => .int
theorem nmJ6 : ∀ a, a < 0 → ∀ b, b < 0 → a ≠ b → (TJ6 a).2.1 ≠ (TJ6 b).2.1 := by decide +kernel
theorem tyJ6_ok : ∀ k, k < 0 → parseFieldDescriptor (TJ6 k).2.2.1 = some (tyJ6 k) := by decide +kernel
abbrev cJ6_bitCount_0f7a4 : ByteArray := prog_14_method_49_code
def yJ6_bitCount_0f7a4 : MethodName := ⟨RJ6, "bitCount", "(I)I"⟩
def RJ9 : String := "java/lang/Math"
def TJ9 : u_T := fun k => match k with
  | _ => ("", "", "", false)
def tyJ9 : Nat → FieldType := fun k => match k with
  | _ => .int
theorem nmJ9 : ∀ a, a < 0 → ∀ b, b < 0 → a ≠ b → (TJ9 a).2.1 ≠ (TJ9 b).2.1 := by decide +kernel
theorem tyJ9_ok : ∀ k, k < 0 → parseFieldDescriptor (TJ9 k).2.2.1 = some (tyJ9 k) := by decide +kernel
abbrev cJ9_max_7cf53 : ByteArray := prog_15_method_65_code
def yJ9_max_7cf53 : MethodName := ⟨RJ9, "max", "(II)I"⟩
abbrev cJ9_min_7cf53 : ByteArray := prog_15_method_69_code
def yJ9_min_7cf53 : MethodName := ⟨RJ9, "min", "(II)I"⟩
def RJ0 : String := "java/lang/String"
def TJ0 : u_T := fun k => match k with
  | _ => ("", "", "", false)
def tyJ0 : Nat → FieldType := fun k => match k with
  | _ => .int
theorem nmJ0 : ∀ a, a < 0 → ∀ b, b < 0 → a ≠ b → (TJ0 a).2.1 ≠ (TJ0 b).2.1 := by decide +kernel
theorem tyJ0_ok : ∀ k, k < 0 → parseFieldDescriptor (TJ0 k).2.2.1 = some (tyJ0 k) := by decide +kernel
def RJ7 : String := "java/util/Arrays"
def TJ7 : u_T := fun k => match k with
  | _ => ("", "", "", false)
def tyJ7 : Nat → FieldType := fun k => match k with
  | _ => .int
theorem nmJ7 : ∀ a, a < 0 → ∀ b, b < 0 → a ≠ b → (TJ7 a).2.1 ≠ (TJ7 b).2.1 := by decide +kernel
theorem tyJ7_ok : ∀ k, k < 0 → parseFieldDescriptor (TJ7 k).2.2.1 = some (tyJ7 k) := by decide +kernel
abbrev cJ7_fill_53178 : ByteArray := prog_19_method_103_code
def yJ7_fill_53178 : MethodName := ⟨RJ7, "fill", "([II)V"⟩
def RL : String := "VoucherworksLaw"
abbrev cL_cell : ByteArray := method_2_code
def yL_cell : MethodName := ⟨RL, "cell", "([II)I"⟩
abbrev cL_low : ByteArray := method_3_code
def yL_low : MethodName := ⟨RL, "low", "(II)I"⟩
abbrev cL_does : ByteArray := method_4_code
def yL_does : MethodName := ⟨RL, "does", "(LVoucherworks;IIIII)I"⟩
abbrev cL_early : ByteArray := method_5_code
def yL_early : MethodName := ⟨RL, "early", "(LVoucherworks;IIIII)I"⟩
abbrev cL_middle : ByteArray := method_6_code
def yL_middle : MethodName := ⟨RL, "middle", "(LVoucherworks;III)I"⟩
abbrev cL_bit : ByteArray := method_7_code
def yL_bit : MethodName := ⟨RL, "bit", "(Z)I"⟩
abbrev cL_act : ByteArray := method_8_code
def yL_act : MethodName := ⟨RL, "act", "(LVoucherworks;I)I"⟩
abbrev cL_areAlike : ByteArray := method_9_code
def yL_areAlike : MethodName := ⟨RL, "areAlike", "(LVoucherworks;LVoucherworks;I)Z"⟩
abbrev cL_areKept : ByteArray := method_10_code
def yL_areKept : MethodName := ⟨RL, "areKept", "(LVoucherworks;)Z"⟩
abbrev cL_areFair : ByteArray := method_11_code
def yL_areFair : MethodName := ⟨RL, "areFair", "(LVoucherworks;LVoucherworks;I)Z"⟩
abbrev cL_law : ByteArray := code
def yL_law : MethodName := ⟨RL, "law", "([I)Z"⟩
abbrev vwCl : List vw_C := [(RX0, TX0, 8), (RX1, TX1, 10), (RX2, TX2, 9), (RX3, TX3, 3), (RX4, TX4, 8), (RX5, TX5, 6), (RX6, TX6, 7)]
