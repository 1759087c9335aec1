def RX0 : String := "StallMarket$1"
def TX0 : u_T := fun k => match k with
  | _ => ("", "", "", false)
def tyX0 : Nat → FieldType := fun k => match k with
  | _ => .int
theorem nmX0 : ∀ a, a < 0 → ∀ b, b < 0 → a ≠ b → (TX0 a).2.1 ≠ (TX0 b).2.1 := by decide +kernel
theorem tyX0_ok : ∀ k, k < 0 → parseFieldDescriptor (TX0 k).2.2.1 = some (tyX0 k) := by decide +kernel
def RX1 : String := "StallMarket$Allocation"
def TX1 : u_T := fun k => match k with
  | 0 => ("StallMarket$Allocation", "requests", "[I", true)
  | 1 => ("StallMarket$Allocation", "finished", "[Z", true)
  | 2 => ("StallMarket$Allocation", "given", "[Z", true)
  | 3 => ("StallMarket$Allocation", "chain", "[I", true)
  | _ => ("StallMarket$Allocation", "chained", "I", false)
def tyX1 : Nat → FieldType := fun k => match k with
  | 0 => .array .int
  | 1 => .array .boolean
  | 2 => .array .boolean
  | 3 => .array .int
  | _ => .int
theorem nmX1 : ∀ a, a < 5 → ∀ b, b < 5 → a ≠ b → (TX1 a).2.1 ≠ (TX1 b).2.1 := by decide +kernel
theorem tyX1_ok : ∀ k, k < 5 → parseFieldDescriptor (TX1 k).2.2.1 = some (tyX1 k) := by decide +kernel
abbrev cX1_init : ByteArray := prog_3_method_1_code
def yX1_init : MethodName := ⟨RX1, "<init>", "()V"⟩
abbrev cX1_decide : ByteArray := prog_3_method_2_code
def yX1_decide : MethodName := ⟨RX1, "decide", "(LStallMarket$Market;)V"⟩
abbrev cX1_nextInTurn : ByteArray := prog_3_method_3_code
def yX1_nextInTurn : MethodName := ⟨RX1, "nextInTurn", "(LStallMarket$Market;)I"⟩
abbrev cX1_append : ByteArray := prog_3_method_4_code
def yX1_append : MethodName := ⟨RX1, "append", "(I)V"⟩
abbrev cX1_serve : ByteArray := prog_3_method_5_code
def yX1_serve : MethodName := ⟨RX1, "serve", "(LStallMarket$Market;I)V"⟩
abbrev cX1_firstAvailable : ByteArray := prog_3_method_6_code
def yX1_firstAvailable : MethodName := ⟨RX1, "firstAvailable", "(LStallMarket$Market;I)I"⟩
abbrev cX1_placeInChain : ByteArray := prog_3_method_7_code
def yX1_placeInChain : MethodName := ⟨RX1, "placeInChain", "(I)I"⟩
abbrev cX1_finishFrom : ByteArray := prog_3_method_8_code
def yX1_finishFrom : MethodName := ⟨RX1, "finishFrom", "(I)V"⟩
abbrev cX1_givenTo : ByteArray := prog_3_method_9_code
def yX1_givenTo : MethodName := ⟨RX1, "givenTo", "(I)I"⟩
abbrev cX1_applyTo : ByteArray := prog_3_method_10_code
def yX1_applyTo : MethodName := ⟨RX1, "applyTo", "(LStallMarket$Market;)I"⟩
def RX2 : String := "StallMarket$ByteText"
def TX2 : u_T := fun k => match k with
  | 0 => ("StallMarket$ByteText", "bytes", "[I", true)
  | _ => ("StallMarket$ByteText", "length", "I", false)
def tyX2 : Nat → FieldType := fun k => match k with
  | 0 => .array .int
  | _ => .int
theorem nmX2 : ∀ a, a < 2 → ∀ b, b < 2 → a ≠ b → (TX2 a).2.1 ≠ (TX2 b).2.1 := by decide +kernel
theorem tyX2_ok : ∀ k, k < 2 → parseFieldDescriptor (TX2 k).2.2.1 = some (tyX2 k) := by decide +kernel
abbrev cX2_init : ByteArray := prog_4_method_1_code
def yX2_init : MethodName := ⟨RX2, "<init>", "()V"⟩
abbrev cX2_byteAt : ByteArray := prog_4_method_2_code
def yX2_byteAt : MethodName := ⟨RX2, "byteAt", "(I)I"⟩
abbrev cX2_add : ByteArray := prog_4_method_3_code
def yX2_add : MethodName := ⟨RX2, "add", "(I)V"⟩
abbrev cX2_addWord : ByteArray := prog_4_method_4_code
def yX2_addWord : MethodName := ⟨RX2, "addWord", "(I)V"⟩
abbrev cX2_cut : ByteArray := prog_4_method_6_code
def yX2_cut : MethodName := ⟨RX2, "cut", "(I)V"⟩
def RX3 : String := "StallMarket$Exchanges"
def TX3 : u_T := fun k => match k with
  | _ => ("", "", "", false)
def tyX3 : Nat → FieldType := fun k => match k with
  | _ => .int
theorem nmX3 : ∀ a, a < 0 → ∀ b, b < 0 → a ≠ b → (TX3 a).2.1 ≠ (TX3 b).2.1 := by decide +kernel
theorem tyX3_ok : ∀ k, k < 0 → parseFieldDescriptor (TX3 k).2.2.1 = some (tyX3 k) := by decide +kernel
abbrev cX3_wantsStallOf : ByteArray := prog_5_method_2_code
def yX3_wantsStallOf : MethodName := ⟨RX3, "wantsStallOf", "(LStallMarket$Market;II)Z"⟩
abbrev cX3_bothGain : ByteArray := prog_5_method_3_code
def yX3_bothGain : MethodName := ⟨RX3, "bothGain", "(LStallMarket$Market;II)Z"⟩
abbrev cX3_shortestCycle : ByteArray := prog_5_method_5_code
def yX3_shortestCycle : MethodName := ⟨RX3, "shortestCycle", "(LStallMarket$Market;I)I"⟩
abbrev cX3_wantedByAny : ByteArray := prog_5_method_6_code
def yX3_wantedByAny : MethodName := ⟨RX3, "wantedByAny", "(LStallMarket$Market;I)I"⟩
abbrev cX3_bestFreeStall : ByteArray := prog_5_method_7_code
def yX3_bestFreeStall : MethodName := ⟨RX3, "bestFreeStall", "(LStallMarket$Market;I)I"⟩
abbrev cX3_canImprove : ByteArray := prog_5_method_8_code
def yX3_canImprove : MethodName := ⟨RX3, "canImprove", "(LStallMarket$Market;)Z"⟩
def RX4 : String := "StallMarket$History"
def TX4 : u_T := fun k => match k with
  | 0 => ("StallMarket$History", "slots", "[LStallMarket$Market;", true)
  | 1 => ("StallMarket$History", "oldest", "I", false)
  | _ => ("StallMarket$History", "count", "I", false)
def tyX4 : Nat → FieldType := fun k => match k with
  | 0 => .array (.object "StallMarket$Market")
  | 1 => .int
  | _ => .int
theorem nmX4 : ∀ a, a < 3 → ∀ b, b < 3 → a ≠ b → (TX4 a).2.1 ≠ (TX4 b).2.1 := by decide +kernel
theorem tyX4_ok : ∀ k, k < 3 → parseFieldDescriptor (TX4 k).2.2.1 = some (tyX4 k) := by decide +kernel
abbrev cX4_init : ByteArray := prog_6_method_1_code
def yX4_init : MethodName := ⟨RX4, "<init>", "()V"⟩
abbrev cX4_clear : ByteArray := prog_6_method_2_code
def yX4_clear : MethodName := ⟨RX4, "clear", "()V"⟩
abbrev cX4_record : ByteArray := prog_6_method_3_code
def yX4_record : MethodName := ⟨RX4, "record", "(LStallMarket$Market;)V"⟩
abbrev cX4_takeBack : ByteArray := prog_6_method_4_code
def yX4_takeBack : MethodName := ⟨RX4, "takeBack", "(LStallMarket$Market;)I"⟩
abbrev cX4_slotAfter : ByteArray := prog_6_method_5_code
def yX4_slotAfter : MethodName := ⟨RX4, "slotAfter", "(I)I"⟩
def RX5 : String := "StallMarket$Market"
def TX5 : u_T := fun k => match k with
  | 0 => ("StallMarket$Market", "sellers", "I", false)
  | 1 => ("StallMarket$Market", "stalls", "I", false)
  | 2 => ("StallMarket$Market", "today", "I", false)
  | 3 => ("StallMarket$Market", "paidRent", "I", false)
  | 4 => ("StallMarket$Market", "evictions", "I", false)
  | 5 => ("StallMarket$Market", "swaps", "I", false)
  | 6 => ("StallMarket$Market", "relocations", "I", false)
  | 7 => ("StallMarket$Market", "openingSum", "I", false)
  | 8 => ("StallMarket$Market", "receipts", "I", false)
  | 9 => ("StallMarket$Market", "sellerNames", "[J", true)
  | 10 => ("StallMarket$Market", "coins", "[I", true)
  | 11 => ("StallMarket$Market", "wages", "[I", true)
  | 12 => ("StallMarket$Market", "held", "[I", true)
  | 13 => ("StallMarket$Market", "turns", "[I", true)
  | 14 => ("StallMarket$Market", "wishCounts", "[I", true)
  | 15 => ("StallMarket$Market", "wishes", "[I", true)
  | 16 => ("StallMarket$Market", "stallNames", "[J", true)
  | _ => ("StallMarket$Market", "prices", "[I", true)
def tyX5 : Nat → FieldType := fun k => match k with
  | 0 => .int
  | 1 => .int
  | 2 => .int
  | 3 => .int
  | 4 => .int
  | 5 => .int
  | 6 => .int
  | 7 => .int
  | 8 => .int
  | 9 => .array .long
  | 10 => .array .int
  | 11 => .array .int
  | 12 => .array .int
  | 13 => .array .int
  | 14 => .array .int
  | 15 => .array .int
  | 16 => .array .long
  | _ => .array .int
theorem nmX5 : ∀ a, a < 18 → ∀ b, b < 18 → a ≠ b → (TX5 a).2.1 ≠ (TX5 b).2.1 := by decide +kernel
theorem tyX5_ok : ∀ k, k < 18 → parseFieldDescriptor (TX5 k).2.2.1 = some (tyX5 k) := by decide +kernel
abbrev cX5_init : ByteArray := prog_7_method_1_code
def yX5_init : MethodName := ⟨RX5, "<init>", "()V"⟩
abbrev cX5_copy : ByteArray := prog_7_method_2_code
def yX5_copy : MethodName := ⟨RX5, "copy", "(LStallMarket$Market;LStallMarket$Market;)V"⟩
abbrev cX5_clear : ByteArray := prog_7_method_3_code
def yX5_clear : MethodName := ⟨RX5, "clear", "()V"⟩
abbrev cX5_addStall : ByteArray := prog_7_method_4_code
def yX5_addStall : MethodName := ⟨RX5, "addStall", "(JI)V"⟩
abbrev cX5_addSeller : ByteArray := prog_7_method_5_code
def yX5_addSeller : MethodName := ⟨RX5, "addSeller", "(JII)V"⟩
abbrev cX5_hasSeller : ByteArray := prog_7_method_6_code
def yX5_hasSeller : MethodName := ⟨RX5, "hasSeller", "(I)Z"⟩
abbrev cX5_hasStall : ByteArray := prog_7_method_7_code
def yX5_hasStall : MethodName := ⟨RX5, "hasStall", "(I)Z"⟩
abbrev cX5_coinsOf : ByteArray := prog_7_method_8_code
def yX5_coinsOf : MethodName := ⟨RX5, "coinsOf", "(I)I"⟩
abbrev cX5_heldBy : ByteArray := prog_7_method_10_code
def yX5_heldBy : MethodName := ⟨RX5, "heldBy", "(I)I"⟩
abbrev cX5_turnOf : ByteArray := prog_7_method_11_code
def yX5_turnOf : MethodName := ⟨RX5, "turnOf", "(I)I"⟩
abbrev cX5_wishesOf : ByteArray := prog_7_method_12_code
def yX5_wishesOf : MethodName := ⟨RX5, "wishesOf", "(I)I"⟩
abbrev cX5_priceOf : ByteArray := prog_7_method_13_code
def yX5_priceOf : MethodName := ⟨RX5, "priceOf", "(I)I"⟩
abbrev cX5_sellerCalled : ByteArray := prog_7_method_16_code
def yX5_sellerCalled : MethodName := ⟨RX5, "sellerCalled", "(J)I"⟩
abbrev cX5_stallCalled : ByteArray := prog_7_method_17_code
def yX5_stallCalled : MethodName := ⟨RX5, "stallCalled", "(J)I"⟩
abbrev cX5_holderOf : ByteArray := prog_7_method_18_code
def yX5_holderOf : MethodName := ⟨RX5, "holderOf", "(I)I"⟩
abbrev cX5_wish : ByteArray := prog_7_method_20_code
def yX5_wish : MethodName := ⟨RX5, "wish", "(II)I"⟩
abbrev cX5_rankIn : ByteArray := prog_7_method_21_code
def yX5_rankIn : MethodName := ⟨RX5, "rankIn", "(II)I"⟩
abbrev cX5_ranksAbove : ByteArray := prog_7_method_22_code
def yX5_ranksAbove : MethodName := ⟨RX5, "ranksAbove", "(III)Z"⟩
abbrev cX5_standing : ByteArray := prog_7_method_23_code
def yX5_standing : MethodName := ⟨RX5, "standing", "(II)I"⟩
abbrev cX5_mayMoveInto : ByteArray := prog_7_method_24_code
def yX5_mayMoveInto : MethodName := ⟨RX5, "mayMoveInto", "(II)Z"⟩
abbrev cX5_seat : ByteArray := prog_7_method_25_code
def yX5_seat : MethodName := ⟨RX5, "seat", "(II)V"⟩
abbrev cX5_exchange : ByteArray := prog_7_method_26_code
def yX5_exchange : MethodName := ⟨RX5, "exchange", "(II)V"⟩
abbrev cX5_moveTurn : ByteArray := prog_7_method_27_code
def yX5_moveTurn : MethodName := ⟨RX5, "moveTurn", "(II)V"⟩
abbrev cX5_wishLast : ByteArray := prog_7_method_28_code
def yX5_wishLast : MethodName := ⟨RX5, "wishLast", "(II)V"⟩
abbrev cX5_dropWish : ByteArray := prog_7_method_29_code
def yX5_dropWish : MethodName := ⟨RX5, "dropWish", "(II)V"⟩
abbrev cX5_wishFirst : ByteArray := prog_7_method_30_code
def yX5_wishFirst : MethodName := ⟨RX5, "wishFirst", "(II)V"⟩
abbrev cX5_price : ByteArray := prog_7_method_31_code
def yX5_price : MethodName := ⟨RX5, "price", "(II)V"⟩
abbrev cX5_receive : ByteArray := prog_7_method_32_code
def yX5_receive : MethodName := ⟨RX5, "receive", "(II)V"⟩
abbrev cX5_mayPass : ByteArray := prog_7_method_33_code
def yX5_mayPass : MethodName := ⟨RX5, "mayPass", "(I)Z"⟩
abbrev cX5_pass : ByteArray := prog_7_method_34_code
def yX5_pass : MethodName := ⟨RX5, "pass", "(I)V"⟩
abbrev cX5_chargeOrEvict : ByteArray := prog_7_method_35_code
def yX5_chargeOrEvict : MethodName := ⟨RX5, "chargeOrEvict", "(I)V"⟩
def RX6 : String := "StallMarket$Matching"
def TX6 : u_T := fun k => match k with
  | 0 => ("StallMarket$Matching", "leastSums", "[I", true)
  | 1 => ("StallMarket$Matching", "size", "I", false)
  | _ => ("StallMarket$Matching", "rankSum", "I", false)
def tyX6 : Nat → FieldType := fun k => match k with
  | 0 => .array .int
  | 1 => .int
  | _ => .int
theorem nmX6 : ∀ a, a < 3 → ∀ b, b < 3 → a ≠ b → (TX6 a).2.1 ≠ (TX6 b).2.1 := by decide +kernel
theorem tyX6_ok : ∀ k, k < 3 → parseFieldDescriptor (TX6 k).2.2.1 = some (tyX6 k) := by decide +kernel
abbrev cX6_init : ByteArray := prog_8_method_1_code
def yX6_init : MethodName := ⟨RX6, "<init>", "()V"⟩
def RX7 : String := "StallMarket$Parser"
def TX7 : u_T := fun k => match k with
  | 0 => ("StallMarket$Parser", "tokens", "LStallMarket$Tokens;", true)
  | 1 => ("StallMarket$Parser", "code", "I", false)
  | _ => ("StallMarket$Parser", "position", "I", false)
def tyX7 : Nat → FieldType := fun k => match k with
  | 0 => .object "StallMarket$Tokens"
  | 1 => .int
  | _ => .int
theorem nmX7 : ∀ a, a < 3 → ∀ b, b < 3 → a ≠ b → (TX7 a).2.1 ≠ (TX7 b).2.1 := by decide +kernel
theorem tyX7_ok : ∀ k, k < 3 → parseFieldDescriptor (TX7 k).2.2.1 = some (tyX7 k) := by decide +kernel
abbrev cX7_init : ByteArray := prog_9_method_1_code
def yX7_init : MethodName := ⟨RX7, "<init>", "()V"⟩
abbrev cX7_begin : ByteArray := prog_9_method_2_code
def yX7_begin : MethodName := ⟨RX7, "begin", "()V"⟩
abbrev cX7_fail : ByteArray := prog_9_method_3_code
def yX7_fail : MethodName := ⟨RX7, "fail", "(I)Z"⟩
abbrev cX7_takeWord : ByteArray := prog_9_method_4_code
def yX7_takeWord : MethodName := ⟨RX7, "takeWord", "(Ljava/lang/String;)Z"⟩
abbrev cX7_takeSemicolon : ByteArray := prog_9_method_5_code
def yX7_takeSemicolon : MethodName := ⟨RX7, "takeSemicolon", "()Z"⟩
abbrev cX7_takeNumber : ByteArray := prog_9_method_6_code
def yX7_takeNumber : MethodName := ⟨RX7, "takeNumber", "(II)I"⟩
abbrev cX7_seeStall : ByteArray := prog_9_method_8_code
def yX7_seeStall : MethodName := ⟨RX7, "seeStall", "(LStallMarket$Market;)I"⟩
def RX8 : String := "StallMarket$Script"
def TX8 : u_T := fun k => match k with
  | 0 => ("StallMarket$Script", "verbs", "[LStallMarket$Verb;", true)
  | 1 => ("StallMarket$Script", "firsts", "[I", true)
  | 2 => ("StallMarket$Script", "seconds", "[I", true)
  | _ => ("StallMarket$Script", "count", "I", false)
def tyX8 : Nat → FieldType := fun k => match k with
  | 0 => .array (.object "StallMarket$Verb")
  | 1 => .array .int
  | 2 => .array .int
  | _ => .int
theorem nmX8 : ∀ a, a < 4 → ∀ b, b < 4 → a ≠ b → (TX8 a).2.1 ≠ (TX8 b).2.1 := by decide +kernel
theorem tyX8_ok : ∀ k, k < 4 → parseFieldDescriptor (TX8 k).2.2.1 = some (tyX8 k) := by decide +kernel
abbrev cX8_init : ByteArray := prog_10_method_1_code
def yX8_init : MethodName := ⟨RX8, "<init>", "()V"⟩
def RX9 : String := "StallMarket$SetupReader"
def TX9 : u_T := fun k => match k with
  | _ => ("", "", "", false)
def tyX9 : Nat → FieldType := fun k => match k with
  | _ => .int
theorem nmX9 : ∀ a, a < 0 → ∀ b, b < 0 → a ≠ b → (TX9 a).2.1 ≠ (TX9 b).2.1 := by decide +kernel
theorem tyX9_ok : ∀ k, k < 0 → parseFieldDescriptor (TX9 k).2.2.1 = some (tyX9 k) := by decide +kernel
abbrev cX9_read : ByteArray := prog_11_method_2_code
def yX9_read : MethodName := ⟨RX9, "read", "(LStallMarket$Parser;LStallMarket$Market;)Z"⟩
abbrev cX9_readStalls : ByteArray := prog_11_method_3_code
def yX9_readStalls : MethodName := ⟨RX9, "readStalls", "(LStallMarket$Parser;LStallMarket$Market;)Z"⟩
abbrev cX9_readStall : ByteArray := prog_11_method_4_code
def yX9_readStall : MethodName := ⟨RX9, "readStall", "(LStallMarket$Parser;LStallMarket$Market;)Z"⟩
abbrev cX9_takeNewName : ByteArray := prog_11_method_5_code
def yX9_takeNewName : MethodName := ⟨RX9, "takeNewName", "(LStallMarket$Parser;Z)Z"⟩
abbrev cX9_readSellers : ByteArray := prog_11_method_6_code
def yX9_readSellers : MethodName := ⟨RX9, "readSellers", "(LStallMarket$Parser;LStallMarket$Market;)Z"⟩
abbrev cX9_readSeller : ByteArray := prog_11_method_7_code
def yX9_readSeller : MethodName := ⟨RX9, "readSeller", "(LStallMarket$Parser;LStallMarket$Market;)Z"⟩
abbrev cX9_readWishes : ByteArray := prog_11_method_8_code
def yX9_readWishes : MethodName := ⟨RX9, "readWishes", "(LStallMarket$Parser;LStallMarket$Market;I)Z"⟩
abbrev cX9_readPlace : ByteArray := prog_11_method_9_code
def yX9_readPlace : MethodName := ⟨RX9, "readPlace", "(LStallMarket$Parser;LStallMarket$Market;I)Z"⟩
def RX10 : String := "StallMarket$Tokens"
def TX10 : u_T := fun k => match k with
  | 0 => ("StallMarket$Tokens", "text", "LStallMarket$ByteText;", true)
  | 1 => ("StallMarket$Tokens", "kind", "I", false)
  | 2 => ("StallMarket$Tokens", "start", "I", false)
  | 3 => ("StallMarket$Tokens", "end", "I", false)
  | 4 => ("StallMarket$Tokens", "number", "I", false)
  | _ => ("StallMarket$Tokens", "name", "J", false)
def tyX10 : Nat → FieldType := fun k => match k with
  | 0 => .object "StallMarket$ByteText"
  | 1 => .int
  | 2 => .int
  | 3 => .int
  | 4 => .int
  | _ => .long
theorem nmX10 : ∀ a, a < 6 → ∀ b, b < 6 → a ≠ b → (TX10 a).2.1 ≠ (TX10 b).2.1 := by decide +kernel
theorem tyX10_ok : ∀ k, k < 6 → parseFieldDescriptor (TX10 k).2.2.1 = some (tyX10 k) := by decide +kernel
abbrev cX10_init : ByteArray := prog_12_method_1_code
def yX10_init : MethodName := ⟨RX10, "<init>", "()V"⟩
abbrev cX10_rewind : ByteArray := prog_12_method_2_code
def yX10_rewind : MethodName := ⟨RX10, "rewind", "()V"⟩
abbrev cX10_next : ByteArray := prog_12_method_3_code
def yX10_next : MethodName := ⟨RX10, "next", "()V"⟩
abbrev cX10_readWord : ByteArray := prog_12_method_4_code
def yX10_readWord : MethodName := ⟨RX10, "readWord", "()V"⟩
abbrev cX10_readNumber : ByteArray := prog_12_method_5_code
def yX10_readNumber : MethodName := ⟨RX10, "readNumber", "()V"⟩
abbrev cX10_isWord : ByteArray := prog_12_method_6_code
def yX10_isWord : MethodName := ⟨RX10, "isWord", "(Ljava/lang/String;)Z"⟩
abbrev cX10_isLetter : ByteArray := prog_12_method_7_code
def yX10_isLetter : MethodName := ⟨RX10, "isLetter", "(I)Z"⟩
abbrev cX10_isDigit : ByteArray := prog_12_method_8_code
def yX10_isDigit : MethodName := ⟨RX10, "isDigit", "(I)Z"⟩
def RX11 : String := "StallMarket$Verb"
def TX11 : u_T := fun k => match k with
  | _ => ("", "", "", false)
def tyX11 : Nat → FieldType := fun k => match k with
  | _ => .int
theorem nmX11 : ∀ a, a < 0 → ∀ b, b < 0 → a ≠ b → (TX11 a).2.1 ≠ (TX11 b).2.1 := by decide +kernel
theorem tyX11_ok : ∀ k, k < 0 → parseFieldDescriptor (TX11 k).2.2.1 = some (tyX11 k) := by decide +kernel
def RX12 : String := "StallMarket"
def TX12 : u_T := fun k => match k with
  | 0 => ("StallMarket", "parser", "LStallMarket$Parser;", true)
  | 1 => ("StallMarket", "output", "LStallMarket$ByteText;", true)
  | 2 => ("StallMarket", "script", "LStallMarket$Script;", true)
  | 3 => ("StallMarket", "market", "LStallMarket$Market;", true)
  | 4 => ("StallMarket", "scratch", "LStallMarket$Market;", true)
  | 5 => ("StallMarket", "saved", "LStallMarket$Market;", true)
  | 6 => ("StallMarket", "hasSaved", "Z", false)
  | 7 => ("StallMarket", "history", "LStallMarket$History;", true)
  | 8 => ("StallMarket", "allocation", "LStallMarket$Allocation;", true)
  | _ => ("StallMarket", "matching", "LStallMarket$Matching;", true)
def tyX12 : Nat → FieldType := fun k => match k with
  | 0 => .object "StallMarket$Parser"
  | 1 => .object "StallMarket$ByteText"
  | 2 => .object "StallMarket$Script"
  | 3 => .object "StallMarket$Market"
  | 4 => .object "StallMarket$Market"
  | 5 => .object "StallMarket$Market"
  | 6 => .boolean
  | 7 => .object "StallMarket$History"
  | 8 => .object "StallMarket$Allocation"
  | _ => .object "StallMarket$Matching"
theorem nmX12 : ∀ a, a < 10 → ∀ b, b < 10 → a ≠ b → (TX12 a).2.1 ≠ (TX12 b).2.1 := by decide +kernel
theorem tyX12_ok : ∀ k, k < 10 → parseFieldDescriptor (TX12 k).2.2.1 = some (tyX12 k) := by decide +kernel
abbrev cX12_init : ByteArray := prog_1_method_1_code
def yX12_init : MethodName := ⟨RX12, "<init>", "()V"⟩
abbrev cX12_appendInput : ByteArray := prog_1_method_2_code
def yX12_appendInput : MethodName := ⟨RX12, "appendInput", "(IIIII)I"⟩
abbrev cX12_loadSetup : ByteArray := prog_1_method_4_code
def yX12_loadSetup : MethodName := ⟨RX12, "loadSetup", "()I"⟩
abbrev cX12_sellerCount : ByteArray := prog_1_method_8_code
def yX12_sellerCount : MethodName := ⟨RX12, "sellerCount", "()I"⟩
abbrev cX12_stallCount : ByteArray := prog_1_method_9_code
def yX12_stallCount : MethodName := ⟨RX12, "stallCount", "()I"⟩
abbrev cX12_day : ByteArray := prog_1_method_10_code
def yX12_day : MethodName := ⟨RX12, "day", "()I"⟩
abbrev cX12_balance : ByteArray := prog_1_method_11_code
def yX12_balance : MethodName := ⟨RX12, "balance", "(I)I"⟩
abbrev cX12_rent : ByteArray := prog_1_method_13_code
def yX12_rent : MethodName := ⟨RX12, "rent", "(I)I"⟩
abbrev cX12_stallOf : ByteArray := prog_1_method_14_code
def yX12_stallOf : MethodName := ⟨RX12, "stallOf", "(I)I"⟩
abbrev cX12_occupantOf : ByteArray := prog_1_method_15_code
def yX12_occupantOf : MethodName := ⟨RX12, "occupantOf", "(I)I"⟩
abbrev cX12_priorityOf : ByteArray := prog_1_method_16_code
def yX12_priorityOf : MethodName := ⟨RX12, "priorityOf", "(I)I"⟩
abbrev cX12_preferenceCount : ByteArray := prog_1_method_17_code
def yX12_preferenceCount : MethodName := ⟨RX12, "preferenceCount", "(I)I"⟩
abbrev cX12_preferenceAt : ByteArray := prog_1_method_18_code
def yX12_preferenceAt : MethodName := ⟨RX12, "preferenceAt", "(II)I"⟩
abbrev cX12_isEfficient : ByteArray := prog_1_method_30_code
def yX12_isEfficient : MethodName := ⟨RX12, "isEfficient", "()Z"⟩
abbrev cX12_allocatedStall : ByteArray := prog_1_method_32_code
def yX12_allocatedStall : MethodName := ⟨RX12, "allocatedStall", "(I)I"⟩
abbrev cX12_ledgerDifference : ByteArray := prog_1_method_46_code
def yX12_ledgerDifference : MethodName := ⟨RX12, "ledgerDifference", "()I"⟩
abbrev cX12_assign : ByteArray := prog_1_method_47_code
def yX12_assign : MethodName := ⟨RX12, "assign", "(II)I"⟩
abbrev cX12_vacate : ByteArray := prog_1_method_48_code
def yX12_vacate : MethodName := ⟨RX12, "vacate", "(I)I"⟩
abbrev cX12_swap : ByteArray := prog_1_method_49_code
def yX12_swap : MethodName := ⟨RX12, "swap", "(II)I"⟩
abbrev cX12_reallocate : ByteArray := prog_1_method_50_code
def yX12_reallocate : MethodName := ⟨RX12, "reallocate", "()I"⟩
abbrev cX12_setPriority : ByteArray := prog_1_method_51_code
def yX12_setPriority : MethodName := ⟨RX12, "setPriority", "(II)I"⟩
abbrev cX12_preferFirst : ByteArray := prog_1_method_52_code
def yX12_preferFirst : MethodName := ⟨RX12, "preferFirst", "(II)I"⟩
abbrev cX12_removePreference : ByteArray := prog_1_method_53_code
def yX12_removePreference : MethodName := ⟨RX12, "removePreference", "(II)I"⟩
abbrev cX12_setRent : ByteArray := prog_1_method_54_code
def yX12_setRent : MethodName := ⟨RX12, "setRent", "(II)I"⟩
abbrev cX12_advanceDays : ByteArray := prog_1_method_56_code
def yX12_advanceDays : MethodName := ⟨RX12, "advanceDays", "(I)I"⟩
abbrev cX12_undo : ByteArray := prog_1_method_60_code
def yX12_undo : MethodName := ⟨RX12, "undo", "()I"⟩
abbrev cX12_requireSeller : ByteArray := prog_1_method_64_code
def yX12_requireSeller : MethodName := ⟨RX12, "requireSeller", "(I)V"⟩
abbrev cX12_requireStall : ByteArray := prog_1_method_65_code
def yX12_requireStall : MethodName := ⟨RX12, "requireStall", "(I)V"⟩
def RX13 : String := "StallMarketLaw$Own"
def TX13 : u_T := fun k => match k with
  | 0 => ("StallMarketLaw$Own", "text", "[B", true)
  | 1 => ("StallMarketLaw$Own", "rent", "[I", true)
  | 2 => ("StallMarketLaw$Own", "coins", "[I", true)
  | 3 => ("StallMarketLaw$Own", "income", "[I", true)
  | 4 => ("StallMarketLaw$Own", "place", "[I", true)
  | 5 => ("StallMarketLaw$Own", "length", "[I", true)
  | 6 => ("StallMarketLaw$Own", "order", "[I", true)
  | 7 => ("StallMarketLaw$Own", "line", "[I", true)
  | 8 => ("StallMarketLaw$Own", "asked", "[I", true)
  | 9 => ("StallMarketLaw$Own", "got", "[I", true)
  | 10 => ("StallMarketLaw$Own", "list", "[[I", true)
  | 11 => ("StallMarketLaw$Own", "taken", "[Z", true)
  | 12 => ("StallMarketLaw$Own", "x", "I", false)
  | 13 => ("StallMarketLaw$Own", "size", "I", false)
  | 14 => ("StallMarketLaw$Own", "stalls", "I", false)
  | 15 => ("StallMarketLaw$Own", "sellers", "I", false)
  | 16 => ("StallMarketLaw$Own", "day", "I", false)
  | _ => ("StallMarketLaw$Own", "inLine", "I", false)
def tyX13 : Nat → FieldType := fun k => match k with
  | 0 => .array .byte
  | 1 => .array .int
  | 2 => .array .int
  | 3 => .array .int
  | 4 => .array .int
  | 5 => .array .int
  | 6 => .array .int
  | 7 => .array .int
  | 8 => .array .int
  | 9 => .array .int
  | 10 => .array (.array .int)
  | 11 => .array .boolean
  | 12 => .int
  | 13 => .int
  | 14 => .int
  | 15 => .int
  | 16 => .int
  | _ => .int
theorem nmX13 : ∀ a, a < 18 → ∀ b, b < 18 → a ≠ b → (TX13 a).2.1 ≠ (TX13 b).2.1 := by decide +kernel
theorem tyX13_ok : ∀ k, k < 18 → parseFieldDescriptor (TX13 k).2.2.1 = some (tyX13 k) := by decide +kernel
abbrev cX13_init : ByteArray := prog_15_method_1_code
def yX13_init : MethodName := ⟨RX13, "<init>", "()V"⟩
abbrev cX13_draw : ByteArray := prog_15_method_2_code
def yX13_draw : MethodName := ⟨RX13, "draw", "(I)I"⟩
abbrev cX13_put : ByteArray := prog_15_method_3_code
def yX13_put : MethodName := ⟨RX13, "put", "(Ljava/lang/String;)V"⟩
abbrev cX13_digits : ByteArray := prog_15_method_4_code
def yX13_digits : MethodName := ⟨RX13, "digits", "(I)V"⟩
abbrev cX13_put_ : ByteArray := prog_15_method_5_code
def yX13_put_ : MethodName := ⟨RX13, "put", "(I)V"⟩
abbrev cX13_letter : ByteArray := prog_15_method_6_code
def yX13_letter : MethodName := ⟨RX13, "letter", "(II)V"⟩
abbrev cX13_four : ByteArray := prog_15_method_7_code
def yX13_four : MethodName := ⟨RX13, "four", "(I)I"⟩
abbrev cX13_send : ByteArray := prog_15_method_8_code
def yX13_send : MethodName := ⟨RX13, "send", "(LStallMarket;)Z"⟩
abbrev cX13_begin : ByteArray := prog_15_method_9_code
def yX13_begin : MethodName := ⟨RX13, "begin", "(LStallMarket;I)Z"⟩
abbrev cX13_rank : ByteArray := prog_15_method_10_code
def yX13_rank : MethodName := ⟨RX13, "rank", "(II)I"⟩
abbrev cX13_tenant : ByteArray := prog_15_method_11_code
def yX13_tenant : MethodName := ⟨RX13, "tenant", "(I)I"⟩
abbrev cX13_bad : ByteArray := prog_15_method_12_code
def yX13_bad : MethodName := ⟨RX13, "bad", "(II)I"⟩
abbrev cX13_likes : ByteArray := prog_15_method_13_code
def yX13_likes : MethodName := ⟨RX13, "likes", "(III)Z"⟩
abbrev cX13_envies : ByteArray := prog_15_method_14_code
def yX13_envies : MethodName := ⟨RX13, "envies", "(II)Z"⟩
abbrev cX13_both : ByteArray := prog_15_method_15_code
def yX13_both : MethodName := ⟨RX13, "both", "(II)Z"⟩
abbrev cX13_mechanism : ByteArray := prog_15_method_16_code
def yX13_mechanism : MethodName := ⟨RX13, "mechanism", "()V"⟩
abbrev cX13_where : ByteArray := prog_15_method_17_code
def yX13_where : MethodName := ⟨RX13, "where", "(I)I"⟩
abbrev cX13_front : ByteArray := prog_15_method_18_code
def yX13_front : MethodName := ⟨RX13, "front", "(I)V"⟩
abbrev cX13_give : ByteArray := prog_15_method_19_code
def yX13_give : MethodName := ⟨RX13, "give", "(II)V"⟩
abbrev cX13_whereAll : ByteArray := prog_15_method_20_code
def yX13_whereAll : MethodName := ⟨RX13, "whereAll", "(I)I"⟩
abbrev cX13_isSame : ByteArray := prog_15_method_21_code
def yX13_isSame : MethodName := ⟨RX13, "isSame", "(LStallMarket;)Z"⟩
abbrev cX13_toFront : ByteArray := prog_15_method_22_code
def yX13_toFront : MethodName := ⟨RX13, "toFront", "(II)V"⟩
abbrev cX13_first : ByteArray := prog_15_method_23_code
def yX13_first : MethodName := ⟨RX13, "first", "(II)V"⟩
abbrev cX13_pass : ByteArray := prog_15_method_24_code
def yX13_pass : MethodName := ⟨RX13, "pass", "()I"⟩
abbrev cX13_act : ByteArray := prog_15_method_25_code
def yX13_act : MethodName := ⟨RX13, "act", "(LStallMarket;)Z"⟩
abbrev cX13_rankAll : ByteArray := prog_15_method_26_code
def yX13_rankAll : MethodName := ⟨RX13, "rankAll", "(II)I"⟩
def RX14 : String := "StallMarketModel"
def TX14 : u_T := fun k => match k with
  | _ => ("", "", "", false)
def tyX14 : Nat → FieldType := fun k => match k with
  | _ => .int
theorem nmX14 : ∀ a, a < 0 → ∀ b, b < 0 → a ≠ b → (TX14 a).2.1 ≠ (TX14 b).2.1 := by decide +kernel
theorem tyX14_ok : ∀ k, k < 0 → parseFieldDescriptor (TX14 k).2.2.1 = some (tyX14 k) := by decide +kernel
def RJx29ce0 : String := "java/lang/Enum"
def TJx29ce0 : u_T := fun k => match k with
  | _ => ("", "", "", false)
def tyJx29ce0 : Nat → FieldType := fun k => match k with
  | _ => .int
theorem nmJx29ce0 : ∀ a, a < 0 → ∀ b, b < 0 → a ≠ b → (TJx29ce0 a).2.1 ≠ (TJx29ce0 b).2.1 := by decide +kernel
theorem tyJx29ce0_ok : ∀ k, k < 0 → parseFieldDescriptor (TJx29ce0 k).2.2.1 = some (tyJx29ce0 k) := by decide +kernel
def RJ0 : String := "java/lang/String"
def TJ0 : u_T := fun k => match k with
  | _ => ("", "", "", false)
def tyJ0 : Nat → FieldType := fun k => match k with
  | _ => .int
theorem nmJ0 : ∀ a, a < 0 → ∀ b, b < 0 → a ≠ b → (TJ0 a).2.1 ≠ (TJ0 b).2.1 := by decide +kernel
theorem tyJ0_ok : ∀ k, k < 0 → parseFieldDescriptor (TJ0 k).2.2.1 = some (tyJ0 k) := by decide +kernel
abbrev cJ0_length_8abf5 : ByteArray := prog_22_method_54_code
def yJ0_length_8abf5 : MethodName := ⟨RJ0, "length", "()I"⟩
abbrev cJ0_charAt_5068e : ByteArray := prog_22_method_56_code
def yJ0_charAt_5068e : MethodName := ⟨RJ0, "charAt", "(I)C"⟩
abbrev cJ0_coder_7d493 : ByteArray := prog_22_method_152_code
def yJ0_coder_7d493 : MethodName := ⟨RJ0, "coder", "()B"⟩
abbrev cJ0_isLatin1_aae02 : ByteArray := prog_22_method_154_code
def yJ0_isLatin1_aae02 : MethodName := ⟨RJ0, "isLatin1", "()Z"⟩
abbrev cJ0_checkIndex_df160 : ByteArray := prog_22_method_155_code
def yJ0_checkIndex_df160 : MethodName := ⟨RJ0, "checkIndex", "(II)V"⟩
def RJ1 : String := "java/lang/StringLatin1"
def TJ1 : u_T := fun k => match k with
  | _ => ("", "", "", false)
def tyJ1 : Nat → FieldType := fun k => match k with
  | _ => .int
theorem nmJ1 : ∀ a, a < 0 → ∀ b, b < 0 → a ≠ b → (TJ1 a).2.1 ≠ (TJ1 b).2.1 := by decide +kernel
theorem tyJ1_ok : ∀ k, k < 0 → parseFieldDescriptor (TJ1 k).2.2.1 = some (tyJ1 k) := by decide +kernel
abbrev cJ1_charAt_3b067 : ByteArray := prog_23_method_2_code
def yJ1_charAt_3b067 : MethodName := ⟨RJ1, "charAt", "([BI)C"⟩
def RJ2 : String := "java/lang/StringUTF16"
def TJ2 : u_T := fun k => match k with
  | _ => ("", "", "", false)
def tyJ2 : Nat → FieldType := fun k => match k with
  | _ => .int
theorem nmJ2 : ∀ a, a < 0 → ∀ b, b < 0 → a ≠ b → (TJ2 a).2.1 ≠ (TJ2 b).2.1 := by decide +kernel
theorem tyJ2_ok : ∀ k, k < 0 → parseFieldDescriptor (TJ2 k).2.2.1 = some (tyJ2 k) := by decide +kernel
abbrev cJ2_getChar_3b067 : ByteArray := prog_24_method_5_code
def yJ2_getChar_3b067 : MethodName := ⟨RJ2, "getChar", "([BI)C"⟩
abbrev cJ2_length_9d52b : ByteArray := prog_24_method_6_code
def yJ2_length_9d52b : MethodName := ⟨RJ2, "length", "([B)I"⟩
abbrev cJ2_charAt_3b067 : ByteArray := prog_24_method_83_code
def yJ2_charAt_3b067 : MethodName := ⟨RJ2, "charAt", "([BI)C"⟩
abbrev cJ2_checkIndex_2214a : ByteArray := prog_24_method_91_code
def yJ2_checkIndex_2214a : MethodName := ⟨RJ2, "checkIndex", "(I[B)V"⟩
def RJ3 : String := "jdk/internal/util/Preconditions"
def TJ3 : u_T := fun k => match k with
  | _ => ("", "", "", false)
def tyJ3 : Nat → FieldType := fun k => match k with
  | _ => .int
theorem nmJ3 : ∀ a, a < 0 → ∀ b, b < 0 → a ≠ b → (TJ3 a).2.1 ≠ (TJ3 b).2.1 := by decide +kernel
theorem tyJ3_ok : ∀ k, k < 0 → parseFieldDescriptor (TJ3 k).2.2.1 = some (tyJ3 k) := by decide +kernel
abbrev cJ3_checkIndex_8e157 : ByteArray := prog_26_method_11_code
def yJ3_checkIndex_8e157 : MethodName := ⟨RJ3, "checkIndex", "(IILjava/util/function/BiFunction;)I"⟩
def RL : String := "StallMarketLaw"
abbrev cL_pick : ByteArray := method_2_code
def yL_pick : MethodName := ⟨RL, "pick", "([II)I"⟩
abbrev cL_law : ByteArray := code
def yL_law : MethodName := ⟨RL, "law", "([I)Z"⟩
abbrev vwCl : List vw_C := [(RX1, TX1, 5), (RX2, TX2, 2), (RX4, TX4, 3), (RX5, TX5, 18), (RX6, TX6, 3), (RX7, TX7, 3), (RX8, TX8, 4), (RX10, TX10, 6), (RX12, TX12, 10), (RX13, TX13, 18)]
