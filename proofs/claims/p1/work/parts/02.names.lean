/-! ===== BEGIN printed: names, fields, word lists, decode rows ===== -/
def RX0 : String := "HiredEnemy$Annals"
def TX0 : u_T := fun k => match k with
  | _ => ("HiredEnemy$Annals", "lines", "[I", true)
def tyX0 : Nat → FieldType := fun k => match k with
  | _ => .array .int
abbrev wsX00 : List Cond := u_ws RX0 TX0 1
theorem nmX0 : ∀ a, a < 1 → ∀ b, b < 1 → a ≠ b → (TX0 a).2.1 ≠ (TX0 b).2.1 := sorry
theorem tyX0_ok : ∀ k, k < 1 → parseFieldDescriptor (TX0 k).2.2.1 = some (tyX0 k) := sorry
abbrev cX0_init : ByteArray := prog_2_method_1_code
def yX0_init : MethodName := ⟨RX0, "<init>", "()V"⟩
abbrev cX0_keep : ByteArray := prog_2_method_2_code
def yX0_keep : MethodName := ⟨RX0, "keep", "(LHiredEnemy$Course;)V"⟩
abbrev cX0_lead : ByteArray := prog_2_method_3_code
def yX0_lead : MethodName := ⟨RX0, "lead", "(LHiredEnemy$Course;)V"⟩
abbrev cX0_giveBack : ByteArray := prog_2_method_4_code
def yX0_giveBack : MethodName := ⟨RX0, "giveBack", "(LHiredEnemy$Course;I)V"⟩
abbrev cX0_shotAt : ByteArray := prog_2_method_5_code
def yX0_shotAt : MethodName := ⟨RX0, "shotAt", "(II)I"⟩
abbrev cX0_take : ByteArray := prog_2_method_6_code
def yX0_take : MethodName := ⟨RX0, "take", "(LHiredEnemy$Annals;I)V"⟩
def RX1 : String := "HiredEnemy$Battle"
def TX1 : u_T := fun k => match k with
  | 0 => ("HiredEnemy$Battle", "worth", "[I", true)
  | 1 => ("HiredEnemy$Battle", "held", "[I", true)
  | 2 => ("HiredEnemy$Battle", "put", "[I", true)
  | 3 => ("HiredEnemy$Battle", "walls", "I", false)
  | _ => ("HiredEnemy$Battle", "safeDigits", "I", false)
def tyX1 : Nat → FieldType := fun k => match k with
  | 0 => .array .int
  | 1 => .array .int
  | 2 => .array .int
  | 3 => .int
  | _ => .int
abbrev wsX10 : List Cond := u_ws RX1 TX1 5
theorem nmX1 : ∀ a, a < 5 → ∀ b, b < 5 → a ≠ b → (TX1 a).2.1 ≠ (TX1 b).2.1 := sorry
theorem tyX1_ok : ∀ k, k < 5 → parseFieldDescriptor (TX1 k).2.2.1 = some (tyX1 k) := sorry
abbrev cX1_init : ByteArray := prog_3_method_1_code
def yX1_init : MethodName := ⟨RX1, "<init>", "()V"⟩
abbrev cX1_prepare : ByteArray := prog_3_method_2_code
def yX1_prepare : MethodName := ⟨RX1, "prepare", "(LHiredEnemy$Plan;)V"⟩
abbrev cX1_all : ByteArray := prog_3_method_3_code
def yX1_all : MethodName := ⟨RX1, "all", "()I"⟩
abbrev cX1_safe : ByteArray := prog_3_method_4_code
def yX1_safe : MethodName := ⟨RX1, "safe", "(III)I"⟩
abbrev cX1_sure : ByteArray := prog_3_method_5_code
def yX1_sure : MethodName := ⟨RX1, "sure", "(II)I"⟩
abbrev cX1_place : ByteArray := prog_3_method_6_code
def yX1_place : MethodName := ⟨RX1, "place", "(IIII)Z"⟩
abbrev cX1_digits : ByteArray := prog_3_method_7_code
def yX1_digits : MethodName := ⟨RX1, "digits", "()I"⟩
abbrev cX1_mostFelled : ByteArray := prog_3_method_8_code
def yX1_mostFelled : MethodName := ⟨RX1, "mostFelled", "(II)I"⟩
abbrev cX1_leastFelled : ByteArray := prog_3_method_9_code
def yX1_leastFelled : MethodName := ⟨RX1, "leastFelled", "(I)I"⟩
abbrev cX1_menToFell : ByteArray := prog_3_method_10_code
def yX1_menToFell : MethodName := ⟨RX1, "menToFell", "(I)I"⟩
abbrev cX1_menToHold : ByteArray := prog_3_method_11_code
def yX1_menToHold : MethodName := ⟨RX1, "menToHold", "(I)I"⟩
abbrev cX1_worthOf : ByteArray := prog_3_method_12_code
def yX1_worthOf : MethodName := ⟨RX1, "worthOf", "(I)I"⟩
def RX2 : String := "HiredEnemy$Belief"
def TX2 : u_T := fun k => match k with
  | 0 => ("HiredEnemy$Belief", "ifReal", "[I", true)
  | 1 => ("HiredEnemy$Belief", "ifHired", "[I", true)
  | 2 => ("HiredEnemy$Belief", "firstReal", "I", false)
  | 3 => ("HiredEnemy$Belief", "firstHired", "I", false)
  | 4 => ("HiredEnemy$Belief", "real", "J", false)
  | 5 => ("HiredEnemy$Belief", "hired", "J", false)
  | _ => ("HiredEnemy$Belief", "things", "I", false)
def tyX2 : Nat → FieldType := fun k => match k with
  | 0 => .array .int
  | 1 => .array .int
  | 2 => .int
  | 3 => .int
  | 4 => .long
  | 5 => .long
  | _ => .int
abbrev wsX20 : List Cond := u_ws RX2 TX2 7
theorem nmX2 : ∀ a, a < 7 → ∀ b, b < 7 → a ≠ b → (TX2 a).2.1 ≠ (TX2 b).2.1 := sorry
theorem tyX2_ok : ∀ k, k < 7 → parseFieldDescriptor (TX2 k).2.2.1 = some (tyX2 k) := sorry
abbrev cX2_init : ByteArray := prog_4_method_1_code
def yX2_init : MethodName := ⟨RX2, "<init>", "()V"⟩
abbrev cX2_start : ByteArray := prog_4_method_2_code
def yX2_start : MethodName := ⟨RX2, "start", "(II)V"⟩
abbrev cX2_forget : ByteArray := prog_4_method_3_code
def yX2_forget : MethodName := ⟨RX2, "forget", "()V"⟩
abbrev cX2_add : ByteArray := prog_4_method_4_code
def yX2_add : MethodName := ⟨RX2, "add", "(II)I"⟩
abbrev cX2_leastTerm : ByteArray := prog_4_method_5_code
def yX2_leastTerm : MethodName := ⟨RX2, "leastTerm", "(Z)J"⟩
abbrev cX2_take : ByteArray := prog_4_method_6_code
def yX2_take : MethodName := ⟨RX2, "take", "(LHiredEnemy$Belief;)V"⟩
def RX3 : String := "HiredEnemy$Bids"
def TX3 : u_T := fun k => match k with
  | 0 => ("HiredEnemy$Bids", "coins", "[I", true)
  | _ => ("HiredEnemy$Bids", "rest", "[I", true)
def tyX3 : Nat → FieldType := fun k => match k with
  | 0 => .array .int
  | _ => .array .int
abbrev wsX30 : List Cond := u_ws RX3 TX3 2
theorem nmX3 : ∀ a, a < 2 → ∀ b, b < 2 → a ≠ b → (TX3 a).2.1 ≠ (TX3 b).2.1 := sorry
theorem tyX3_ok : ∀ k, k < 2 → parseFieldDescriptor (TX3 k).2.2.1 = some (tyX3 k) := sorry
abbrev cX3_init : ByteArray := prog_5_method_1_code
def yX3_init : MethodName := ⟨RX3, "<init>", "()V"⟩
abbrev cX3_clear : ByteArray := prog_5_method_2_code
def yX3_clear : MethodName := ⟨RX3, "clear", "()V"⟩
abbrev cX3_bid : ByteArray := prog_5_method_3_code
def yX3_bid : MethodName := ⟨RX3, "bid", "(III)I"⟩
abbrev cX3_mostCoin : ByteArray := prog_5_method_4_code
def yX3_mostCoin : MethodName := ⟨RX3, "mostCoin", "()I"⟩
abbrev cX3_mostFrom : ByteArray := prog_5_method_5_code
def yX3_mostFrom : MethodName := ⟨RX3, "mostFrom", "(II)I"⟩
abbrev cX3_through : ByteArray := prog_5_method_6_code
def yX3_through : MethodName := ⟨RX3, "through", "(II)I"⟩
abbrev cX3_mayFollow : ByteArray := prog_5_method_7_code
def yX3_mayFollow : MethodName := ⟨RX3, "mayFollow", "(II)Z"⟩
abbrev cX3_served : ByteArray := prog_5_method_8_code
def yX3_served : MethodName := ⟨RX3, "served", "(I)I"⟩
abbrev cX3_firstWay : ByteArray := prog_5_method_9_code
def yX3_firstWay : MethodName := ⟨RX3, "firstWay", "(II)I"⟩
abbrev cX3_take : ByteArray := prog_5_method_10_code
def yX3_take : MethodName := ⟨RX3, "take", "(LHiredEnemy$Bids;)V"⟩
def RX4 : String := "HiredEnemy$Course"
def TX4 : u_T := fun k => match k with
  | 0 => ("HiredEnemy$Course", "now", "[I", true)
  | 1 => ("HiredEnemy$Course", "shot", "[I", true)
  | _ => ("HiredEnemy$Course", "month", "I", false)
def tyX4 : Nat → FieldType := fun k => match k with
  | 0 => .array .int
  | 1 => .array .int
  | _ => .int
abbrev wsX40 : List Cond := u_ws RX4 TX4 3
theorem nmX4 : ∀ a, a < 3 → ∀ b, b < 3 → a ≠ b → (TX4 a).2.1 ≠ (TX4 b).2.1 := sorry
theorem tyX4_ok : ∀ k, k < 3 → parseFieldDescriptor (TX4 k).2.2.1 = some (tyX4 k) := sorry
abbrev cX4_init : ByteArray := prog_6_method_1_code
def yX4_init : MethodName := ⟨RX4, "<init>", "()V"⟩
abbrev cX4_begin : ByteArray := prog_6_method_2_code
def yX4_begin : MethodName := ⟨RX4, "begin", "(LHiredEnemy$Plan;)V"⟩
abbrev cX4_take : ByteArray := prog_6_method_3_code
def yX4_take : MethodName := ⟨RX4, "take", "(LHiredEnemy$Course;)V"⟩
abbrev cX4_pledge : ByteArray := prog_6_method_4_code
def yX4_pledge : MethodName := ⟨RX4, "pledge", "(I)V"⟩
abbrev cX4_pass : ByteArray := prog_6_method_5_code
def yX4_pass : MethodName := ⟨RX4, "pass", "(LHiredEnemy$Plan;LHiredEnemy$Pact;)V"⟩
abbrev cX4_move : ByteArray := prog_6_method_6_code
def yX4_move : MethodName := ⟨RX4, "move", "(III)V"⟩
abbrev cX4_isPaid : ByteArray := prog_6_method_7_code
def yX4_isPaid : MethodName := ⟨RX4, "isPaid", "(LHiredEnemy$Pact;)Z"⟩
abbrev cX4_shoot : ByteArray := prog_6_method_8_code
def yX4_shoot : MethodName := ⟨RX4, "shoot", "(LHiredEnemy$Plan;LHiredEnemy$Pact;)V"⟩
abbrev cX4_weakest : ByteArray := prog_6_method_9_code
def yX4_weakest : MethodName := ⟨RX4, "weakest", "(I)I"⟩
abbrev cX4_breach : ByteArray := prog_6_method_10_code
def yX4_breach : MethodName := ⟨RX4, "breach", "(LHiredEnemy$Plan;LHiredEnemy$Pact;I)V"⟩
abbrev cX4_frighten : ByteArray := prog_6_method_11_code
def yX4_frighten : MethodName := ⟨RX4, "frighten", "(I)V"⟩
abbrev cX4_mend : ByteArray := prog_6_method_12_code
def yX4_mend : MethodName := ⟨RX4, "mend", "(LHiredEnemy$Plan;)V"⟩
abbrev cX4_desert : ByteArray := prog_6_method_13_code
def yX4_desert : MethodName := ⟨RX4, "desert", "(I)V"⟩
def RX5 : String := "HiredEnemy$Pact"
def TX5 : u_T := fun k => match k with
  | 0 => ("HiredEnemy$Pact", "said", "[I", true)
  | 1 => ("HiredEnemy$Pact", "wallByMonth", "[I", true)
  | _ => ("HiredEnemy$Pact", "walls", "I", false)
def tyX5 : Nat → FieldType := fun k => match k with
  | 0 => .array .int
  | 1 => .array .int
  | _ => .int
abbrev wsX50 : List Cond := u_ws RX5 TX5 3
theorem nmX5 : ∀ a, a < 3 → ∀ b, b < 3 → a ≠ b → (TX5 a).2.1 ≠ (TX5 b).2.1 := sorry
theorem tyX5_ok : ∀ k, k < 3 → parseFieldDescriptor (TX5 k).2.2.1 = some (tyX5 k) := sorry
abbrev cX5_init : ByteArray := prog_7_method_1_code
def yX5_init : MethodName := ⟨RX5, "<init>", "()V"⟩
abbrev cX5_clear : ByteArray := prog_7_method_2_code
def yX5_clear : MethodName := ⟨RX5, "clear", "(I)V"⟩
abbrev cX5_propose : ByteArray := prog_7_method_3_code
def yX5_propose : MethodName := ⟨RX5, "propose", "(IIII)V"⟩
abbrev cX5_words : ByteArray := prog_7_method_4_code
def yX5_words : MethodName := ⟨RX5, "words", "()Ljava/lang/String;"⟩
abbrev cX5_mostParts : ByteArray := prog_7_method_5_code
def yX5_mostParts : MethodName := ⟨RX5, "mostParts", "()I"⟩
abbrev cX5_isFull : ByteArray := prog_7_method_6_code
def yX5_isFull : MethodName := ⟨RX5, "isFull", "(I)Z"⟩
abbrev cX5_numbers : ByteArray := prog_7_method_7_code
def yX5_numbers : MethodName := ⟨RX5, "numbers", "(I)I"⟩
abbrev cX5_low : ByteArray := prog_7_method_8_code
def yX5_low : MethodName := ⟨RX5, "low", "(II)I"⟩
abbrev cX5_high : ByteArray := prog_7_method_9_code
def yX5_high : MethodName := ⟨RX5, "high", "(II)I"⟩
abbrev cX5_store : ByteArray := prog_7_method_10_code
def yX5_store : MethodName := ⟨RX5, "store", "(I[I)V"⟩
abbrev cX5_answer : ByteArray := prog_7_method_11_code
def yX5_answer : MethodName := ⟨RX5, "answer", "(I)I"⟩
abbrev cX5_winterPay : ByteArray := prog_7_method_12_code
def yX5_winterPay : MethodName := ⟨RX5, "winterPay", "()I"⟩
abbrev cX5_breachesTold : ByteArray := prog_7_method_13_code
def yX5_breachesTold : MethodName := ⟨RX5, "breachesTold", "()I"⟩
abbrev cX5_payIn : ByteArray := prog_7_method_14_code
def yX5_payIn : MethodName := ⟨RX5, "payIn", "(I)I"⟩
abbrev cX5_wallDue : ByteArray := prog_7_method_15_code
def yX5_wallDue : MethodName := ⟨RX5, "wallDue", "(II)I"⟩
def RX6 : String := "HiredEnemy$Plan"
def TX6 : u_T := fun k => match k with
  | 0 => ("HiredEnemy$Plan", "said", "[I", true)
  | 1 => ("HiredEnemy$Plan", "fearByNear", "[I", true)
  | 2 => ("HiredEnemy$Plan", "strength", "[I", true)
  | 3 => ("HiredEnemy$Plan", "mended", "[I", true)
  | _ => ("HiredEnemy$Plan", "walls", "I", false)
def tyX6 : Nat → FieldType := fun k => match k with
  | 0 => .array .int
  | 1 => .array .int
  | 2 => .array .int
  | 3 => .array .int
  | _ => .int
abbrev wsX60 : List Cond := u_ws RX6 TX6 5
theorem nmX6 : ∀ a, a < 5 → ∀ b, b < 5 → a ≠ b → (TX6 a).2.1 ≠ (TX6 b).2.1 := sorry
theorem tyX6_ok : ∀ k, k < 5 → parseFieldDescriptor (TX6 k).2.2.1 = some (tyX6 k) := sorry
abbrev cX6_init : ByteArray := prog_8_method_1_code
def yX6_init : MethodName := ⟨RX6, "<init>", "()V"⟩
abbrev cX6_clear : ByteArray := prog_8_method_2_code
def yX6_clear : MethodName := ⟨RX6, "clear", "()V"⟩
abbrev cX6_words : ByteArray := prog_8_method_3_code
def yX6_words : MethodName := ⟨RX6, "words", "()Ljava/lang/String;"⟩
abbrev cX6_mostParts : ByteArray := prog_8_method_4_code
def yX6_mostParts : MethodName := ⟨RX6, "mostParts", "()I"⟩
abbrev cX6_isFull : ByteArray := prog_8_method_5_code
def yX6_isFull : MethodName := ⟨RX6, "isFull", "(I)Z"⟩
abbrev cX6_numbers : ByteArray := prog_8_method_6_code
def yX6_numbers : MethodName := ⟨RX6, "numbers", "(I)I"⟩
abbrev cX6_low : ByteArray := prog_8_method_7_code
def yX6_low : MethodName := ⟨RX6, "low", "(II)I"⟩
abbrev cX6_high : ByteArray := prog_8_method_8_code
def yX6_high : MethodName := ⟨RX6, "high", "(II)I"⟩
abbrev cX6_store : ByteArray := prog_8_method_9_code
def yX6_store : MethodName := ⟨RX6, "store", "(I[I)V"⟩
abbrev cX6_addWall : ByteArray := prog_8_method_10_code
def yX6_addWall : MethodName := ⟨RX6, "addWall", "(II)V"⟩
abbrev cX6_fearAt : ByteArray := prog_8_method_11_code
def yX6_fearAt : MethodName := ⟨RX6, "fearAt", "(I)I"⟩
abbrev cX6_wanted : ByteArray := prog_8_method_12_code
def yX6_wanted : MethodName := ⟨RX6, "wanted", "(II)I"⟩
def RX7 : String := "HiredEnemy$Reader"
def TX7 : u_T := fun k => match k with
  | 0 => ("HiredEnemy$Reader", "bytes", "[B", false)
  | 1 => ("HiredEnemy$Reader", "length", "I", false)
  | 2 => ("HiredEnemy$Reader", "at", "I", false)
  | 3 => ("HiredEnemy$Reader", "fault", "I", false)
  | 4 => ("HiredEnemy$Reader", "place", "I", false)
  | _ => ("HiredEnemy$Reader", "numbers", "[I", true)
def tyX7 : Nat → FieldType := fun k => match k with
  | 0 => .array .byte
  | 1 => .int
  | 2 => .int
  | 3 => .int
  | 4 => .int
  | _ => .array .int
abbrev wsX70 : List Cond := u_ws RX7 TX7 6
theorem nmX7 : ∀ a, a < 6 → ∀ b, b < 6 → a ≠ b → (TX7 a).2.1 ≠ (TX7 b).2.1 := sorry
theorem tyX7_ok : ∀ k, k < 6 → parseFieldDescriptor (TX7 k).2.2.1 = some (tyX7 k) := sorry
abbrev cX7_init : ByteArray := prog_9_method_1_code
def yX7_init : MethodName := ⟨RX7, "<init>", "()V"⟩
abbrev cX7_read : ByteArray := prog_9_method_2_code
def yX7_read : MethodName := ⟨RX7, "read", "([BILHiredEnemy$Telling;)I"⟩
abbrev cX7_readPart : ByteArray := prog_9_method_3_code
def yX7_readPart : MethodName := ⟨RX7, "readPart", "(LHiredEnemy$Telling;I)Z"⟩
abbrev cX7_readNumber : ByteArray := prog_9_method_4_code
def yX7_readNumber : MethodName := ⟨RX7, "readNumber", "(III)Z"⟩
abbrev cX7_fail : ByteArray := prog_9_method_5_code
def yX7_fail : MethodName := ⟨RX7, "fail", "(II)Z"⟩
abbrev cX7_skipBlanks : ByteArray := prog_9_method_6_code
def yX7_skipBlanks : MethodName := ⟨RX7, "skipBlanks", "()V"⟩
abbrev cX7_skipLetters : ByteArray := prog_9_method_7_code
def yX7_skipLetters : MethodName := ⟨RX7, "skipLetters", "()V"⟩
abbrev cX7_kindOf : ByteArray := prog_9_method_8_code
def yX7_kindOf : MethodName := ⟨RX7, "kindOf", "(Ljava/lang/String;I)I"⟩
abbrev cX7_isSame : ByteArray := prog_9_method_9_code
def yX7_isSame : MethodName := ⟨RX7, "isSame", "(Ljava/lang/String;III)Z"⟩
def RX8 : String := "HiredEnemy$Scene"
def TX8 : u_T := fun k => match k with
  | 0 => ("HiredEnemy$Scene", "course", "LHiredEnemy$Course;", true)
  | 1 => ("HiredEnemy$Scene", "annals", "LHiredEnemy$Annals;", true)
  | 2 => ("HiredEnemy$Scene", "belief", "LHiredEnemy$Belief;", true)
  | _ => ("HiredEnemy$Scene", "bids", "LHiredEnemy$Bids;", true)
def tyX8 : Nat → FieldType := fun k => match k with
  | 0 => .object "HiredEnemy$Course"
  | 1 => .object "HiredEnemy$Annals"
  | 2 => .object "HiredEnemy$Belief"
  | _ => .object "HiredEnemy$Bids"
abbrev wsX80 : List Cond := u_ws RX8 TX8 4
theorem nmX8 : ∀ a, a < 4 → ∀ b, b < 4 → a ≠ b → (TX8 a).2.1 ≠ (TX8 b).2.1 := sorry
theorem tyX8_ok : ∀ k, k < 4 → parseFieldDescriptor (TX8 k).2.2.1 = some (tyX8 k) := sorry
abbrev cX8_init : ByteArray := prog_10_method_1_code
def yX8_init : MethodName := ⟨RX8, "<init>", "()V"⟩
abbrev cX8_begin : ByteArray := prog_10_method_2_code
def yX8_begin : MethodName := ⟨RX8, "begin", "(LHiredEnemy$Plan;)V"⟩
abbrev cX8_take : ByteArray := prog_10_method_3_code
def yX8_take : MethodName := ⟨RX8, "take", "(LHiredEnemy$Scene;)V"⟩
def RX9 : String := "HiredEnemy$Telling"
def TX9 : u_T := fun k => match k with
  | _ => ("", "", "", false)
def tyX9 : Nat → FieldType := fun k => match k with
  | _ => .int
abbrev wsX90 : List Cond := u_ws RX9 TX9 0
theorem nmX9 : ∀ a, a < 0 → ∀ b, b < 0 → a ≠ b → (TX9 a).2.1 ≠ (TX9 b).2.1 := sorry
theorem tyX9_ok : ∀ k, k < 0 → parseFieldDescriptor (TX9 k).2.2.1 = some (tyX9 k) := sorry
abbrev cX9_init : ByteArray := prog_11_method_1_code
def yX9_init : MethodName := ⟨RX9, "<init>", "()V"⟩
def RX10 : String := "HiredEnemy"
def TX10 : u_T := fun k => match k with
  | 0 => ("HiredEnemy", "tape", "[B", true)
  | 1 => ("HiredEnemy", "taped", "I", false)
  | 2 => ("HiredEnemy", "reader", "LHiredEnemy$Reader;", true)
  | 3 => ("HiredEnemy", "plan", "LHiredEnemy$Plan;", false)
  | 4 => ("HiredEnemy", "draft", "LHiredEnemy$Plan;", false)
  | 5 => ("HiredEnemy", "pacts", "[LHiredEnemy$Pact;", true)
  | 6 => ("HiredEnemy", "pactsTold", "I", false)
  | 7 => ("HiredEnemy", "scene", "LHiredEnemy$Scene;", true)
  | 8 => ("HiredEnemy", "images", "[LHiredEnemy$Scene;", true)
  | 9 => ("HiredEnemy", "imagesKept", "I", false)
  | 10 => ("HiredEnemy", "trial", "LHiredEnemy$Course;", true)
  | 11 => ("HiredEnemy", "battle", "LHiredEnemy$Battle;", true)
  | _ => ("HiredEnemy", "refused", "[I", true)
def tyX10 : Nat → FieldType := fun k => match k with
  | 0 => .array .byte
  | 1 => .int
  | 2 => .object "HiredEnemy$Reader"
  | 3 => .object "HiredEnemy$Plan"
  | 4 => .object "HiredEnemy$Plan"
  | 5 => .array (.object "HiredEnemy$Pact")
  | 6 => .int
  | 7 => .object "HiredEnemy$Scene"
  | 8 => .array (.object "HiredEnemy$Scene")
  | 9 => .int
  | 10 => .object "HiredEnemy$Course"
  | 11 => .object "HiredEnemy$Battle"
  | _ => .array .int
abbrev wsX100 : List Cond := u_ws RX10 TX10 13
theorem nmX10 : ∀ a, a < 13 → ∀ b, b < 13 → a ≠ b → (TX10 a).2.1 ≠ (TX10 b).2.1 := sorry
theorem tyX10_ok : ∀ k, k < 13 → parseFieldDescriptor (TX10 k).2.2.1 = some (tyX10 k) := sorry
abbrev cX10_init : ByteArray := prog_1_method_1_code
def yX10_init : MethodName := ⟨RX10, "<init>", "()V"⟩
abbrev cX10_feed : ByteArray := prog_1_method_2_code
def yX10_feed : MethodName := ⟨RX10, "feed", "(IIIII)I"⟩
abbrev cX10_putOnTape : ByteArray := prog_1_method_3_code
def yX10_putOnTape : MethodName := ⟨RX10, "putOnTape", "(I)V"⟩
abbrev cX10_siege : ByteArray := prog_1_method_4_code
def yX10_siege : MethodName := ⟨RX10, "siege", "(I)I"⟩
abbrev cX10_contract : ByteArray := prog_1_method_5_code
def yX10_contract : MethodName := ⟨RX10, "contract", "(I)I"⟩
abbrev cX10_fault : ByteArray := prog_1_method_6_code
def yX10_fault : MethodName := ⟨RX10, "fault", "()I"⟩
abbrev cX10_told : ByteArray := prog_1_method_7_code
def yX10_told : MethodName := ⟨RX10, "told", "(I)I"⟩
abbrev cX10_wall : ByteArray := prog_1_method_8_code
def yX10_wall : MethodName := ⟨RX10, "wall", "(II)I"⟩
abbrev cX10_rule : ByteArray := prog_1_method_9_code
def yX10_rule : MethodName := ⟨RX10, "rule", "(II)I"⟩
abbrev cX10_wants : ByteArray := prog_1_method_10_code
def yX10_wants : MethodName := ⟨RX10, "wants", "(II)I"⟩
abbrev cX10_sign : ByteArray := prog_1_method_11_code
def yX10_sign : MethodName := ⟨RX10, "sign", "(I)I"⟩
abbrev cX10_months : ByteArray := prog_1_method_12_code
def yX10_months : MethodName := ⟨RX10, "months", "(I)I"⟩
abbrev cX10_undo : ByteArray := prog_1_method_13_code
def yX10_undo : MethodName := ⟨RX10, "undo", "(I)I"⟩
abbrev cX10_sums : ByteArray := prog_1_method_14_code
def yX10_sums : MethodName := ⟨RX10, "sums", "(I)I"⟩
abbrev cX10_corks : ByteArray := prog_1_method_15_code
def yX10_corks : MethodName := ⟨RX10, "corks", "(II)I"⟩
abbrev cX10_would : ByteArray := prog_1_method_16_code
def yX10_would : MethodName := ⟨RX10, "would", "(III)I"⟩
abbrev cX10_best : ByteArray := prog_1_method_17_code
def yX10_best : MethodName := ⟨RX10, "best", "(II)I"⟩
abbrev cX10_offer : ByteArray := prog_1_method_18_code
def yX10_offer : MethodName := ⟨RX10, "offer", "(II)I"⟩
abbrev cX10_nearest : ByteArray := prog_1_method_19_code
def yX10_nearest : MethodName := ⟨RX10, "nearest", "(II)I"⟩
abbrev cX10_stop : ByteArray := prog_1_method_20_code
def yX10_stop : MethodName := ⟨RX10, "stop", "(II)I"⟩
abbrev cX10_odds : ByteArray := prog_1_method_21_code
def yX10_odds : MethodName := ⟨RX10, "odds", "(II)V"⟩
abbrev cX10_kind : ByteArray := prog_1_method_22_code
def yX10_kind : MethodName := ⟨RX10, "kind", "(III)V"⟩
abbrev cX10_seen : ByteArray := prog_1_method_23_code
def yX10_seen : MethodName := ⟨RX10, "seen", "(I)I"⟩
abbrev cX10_spy : ByteArray := prog_1_method_24_code
def yX10_spy : MethodName := ⟨RX10, "spy", "(ZI)I"⟩
abbrev cX10_believed : ByteArray := prog_1_method_25_code
def yX10_believed : MethodName := ⟨RX10, "believed", "(I)J"⟩
abbrev cX10_earnest : ByteArray := prog_1_method_26_code
def yX10_earnest : MethodName := ⟨RX10, "earnest", "(III)I"⟩
abbrev cX10_stands : ByteArray := prog_1_method_27_code
def yX10_stands : MethodName := ⟨RX10, "stands", "(II)I"⟩
abbrev cX10_show : ByteArray := prog_1_method_28_code
def yX10_show : MethodName := ⟨RX10, "show", "(II)I"⟩
abbrev cX10_offers : ByteArray := prog_1_method_29_code
def yX10_offers : MethodName := ⟨RX10, "offers", "(III)I"⟩
abbrev cX10_most : ByteArray := prog_1_method_30_code
def yX10_most : MethodName := ⟨RX10, "most", "()I"⟩
abbrev cX10_serves : ByteArray := prog_1_method_31_code
def yX10_serves : MethodName := ⟨RX10, "serves", "(I)I"⟩
abbrev cX10_image : ByteArray := prog_1_method_32_code
def yX10_image : MethodName := ⟨RX10, "image", "()I"⟩
abbrev cX10_restore : ByteArray := prog_1_method_33_code
def yX10_restore : MethodName := ⟨RX10, "restore", "()I"⟩
abbrev cX10_status : ByteArray := prog_1_method_34_code
def yX10_status : MethodName := ⟨RX10, "status", "(I)I"⟩
abbrev cX10_count : ByteArray := prog_1_method_35_code
def yX10_count : MethodName := ⟨RX10, "count", "(I)I"⟩
abbrev cX10_within : ByteArray := prog_1_method_36_code
def yX10_within : MethodName := ⟨RX10, "within", "(III)Z"⟩
abbrev cX10_demand : ByteArray := prog_1_method_37_code
def yX10_demand : MethodName := ⟨RX10, "demand", "(Z)V"⟩
abbrev cX10_demandWall : ByteArray := prog_1_method_38_code
def yX10_demandWall : MethodName := ⟨RX10, "demandWall", "(I)V"⟩
abbrev cX10_demandContract : ByteArray := prog_1_method_39_code
def yX10_demandContract : MethodName := ⟨RX10, "demandContract", "(I)V"⟩
abbrev cX10_demandContractOrNone : ByteArray := prog_1_method_40_code
def yX10_demandContractOrNone : MethodName := ⟨RX10, "demandContractOrNone", "(I)V"⟩
abbrev cX10_inForce : ByteArray := prog_1_method_41_code
def yX10_inForce : MethodName := ⟨RX10, "inForce", "(LHiredEnemy$Course;)LHiredEnemy$Pact;"⟩
abbrev cX10_passTried : ByteArray := prog_1_method_42_code
def yX10_passTried : MethodName := ⟨RX10, "passTried", "(I)V"⟩
abbrev cX10_trySigned : ByteArray := prog_1_method_43_code
def yX10_trySigned : MethodName := ⟨RX10, "trySigned", "(II)I"⟩
def RX11 : String := "HiredEnemyModel"
def TX11 : u_T := fun k => match k with
  | 0 => ("HiredEnemyModel", "thrown", "I", false)
  | 1 => ("HiredEnemyModel", "tape", "I", false)
  | 2 => ("HiredEnemyModel", "size", "I", false)
  | 3 => ("HiredEnemyModel", "place", "I", false)
  | 4 => ("HiredEnemyModel", "at", "I", false)
  | 5 => ("HiredEnemyModel", "fault", "I", false)
  | 6 => ("HiredEnemyModel", "faultAt", "I", false)
  | 7 => ("HiredEnemyModel", "clauses", "I", false)
  | 8 => ("HiredEnemyModel", "fed", "[I", true)
  | 9 => ("HiredEnemyModel", "refused", "[I", true)
  | 10 => ("HiredEnemyModel", "readTold", "[I", true)
  | 11 => ("HiredEnemyModel", "told", "[I", true)
  | 12 => ("HiredEnemyModel", "readWall", "[[I", true)
  | 13 => ("HiredEnemyModel", "wall", "[[I", true)
  | 14 => ("HiredEnemyModel", "contracts", "I", false)
  | 15 => ("HiredEnemyModel", "readContract", "[I", true)
  | 16 => ("HiredEnemyModel", "readBreach", "[I", true)
  | 17 => ("HiredEnemyModel", "contract", "[[I", true)
  | 18 => ("HiredEnemyModel", "breach", "[[I", true)
  | 19 => ("HiredEnemyModel", "s", "[I", true)
  | 20 => ("HiredEnemyModel", "aside", "[I", true)
  | 21 => ("HiredEnemyModel", "gone", "[[I", true)
  | 22 => ("HiredEnemyModel", "shot", "[[I", true)
  | 23 => ("HiredEnemyModel", "isReal", "Z", false)
  | 24 => ("HiredEnemyModel", "oddsA", "I", false)
  | 25 => ("HiredEnemyModel", "oddsB", "I", false)
  | 26 => ("HiredEnemyModel", "things", "I", false)
  | 27 => ("HiredEnemyModel", "images", "I", false)
  | 28 => ("HiredEnemyModel", "spot", "I", false)
  | 29 => ("HiredEnemyModel", "kind", "[[I", true)
  | 30 => ("HiredEnemyModel", "thing", "[[I", true)
  | 31 => ("HiredEnemyModel", "offered", "[[I", true)
  | 32 => ("HiredEnemyModel", "kept", "[[I", true)
  | 33 => ("HiredEnemyModel", "safeRow", "I", false)
  | _ => ("HiredEnemyModel", "rest", "[[I", true)
def tyX11 : Nat → FieldType := fun k => match k with
  | 0 => .int
  | 1 => .int
  | 2 => .int
  | 3 => .int
  | 4 => .int
  | 5 => .int
  | 6 => .int
  | 7 => .int
  | 8 => .array .int
  | 9 => .array .int
  | 10 => .array .int
  | 11 => .array .int
  | 12 => .array (.array .int)
  | 13 => .array (.array .int)
  | 14 => .int
  | 15 => .array .int
  | 16 => .array .int
  | 17 => .array (.array .int)
  | 18 => .array (.array .int)
  | 19 => .array .int
  | 20 => .array .int
  | 21 => .array (.array .int)
  | 22 => .array (.array .int)
  | 23 => .boolean
  | 24 => .int
  | 25 => .int
  | 26 => .int
  | 27 => .int
  | 28 => .int
  | 29 => .array (.array .int)
  | 30 => .array (.array .int)
  | 31 => .array (.array .int)
  | 32 => .array (.array .int)
  | 33 => .int
  | _ => .array (.array .int)
abbrev wsX110 : List Cond := u_ws RX11 TX11 35
theorem nmX11 : ∀ a, a < 35 → ∀ b, b < 35 → a ≠ b → (TX11 a).2.1 ≠ (TX11 b).2.1 := sorry
theorem tyX11_ok : ∀ k, k < 35 → parseFieldDescriptor (TX11 k).2.2.1 = some (tyX11 k) := sorry
abbrev cX11_init : ByteArray := prog_13_method_1_code
def yX11_init : MethodName := ⟨RX11, "<init>", "()V"⟩
abbrev cX11_tellsNothing : ByteArray := prog_13_method_2_code
def yX11_tellsNothing : MethodName := ⟨RX11, "tellsNothing", "()V"⟩
abbrev cX11_thrown : ByteArray := prog_13_method_3_code
def yX11_thrown : MethodName := ⟨RX11, "thrown", "()I"⟩
abbrev cX11_bad : ByteArray := prog_13_method_4_code
def yX11_bad : MethodName := ⟨RX11, "bad", "(ZII)Z"⟩
abbrev cX11_in : ByteArray := prog_13_method_5_code
def yX11_in : MethodName := ⟨RX11, "in", "(III)Z"⟩
abbrev cX11_feed : ByteArray := prog_13_method_6_code
def yX11_feed : MethodName := ⟨RX11, "feed", "(IIIII)I"⟩
abbrev cX11_byteAt : ByteArray := prog_13_method_7_code
def yX11_byteAt : MethodName := ⟨RX11, "byteAt", "(I)I"⟩
abbrev cX11_blanks : ByteArray := prog_13_method_8_code
def yX11_blanks : MethodName := ⟨RX11, "blanks", "()V"⟩
abbrev cX11_wrong : ByteArray := prog_13_method_9_code
def yX11_wrong : MethodName := ⟨RX11, "wrong", "(II)V"⟩
abbrev cX11_isDigit : ByteArray := prog_13_method_10_code
def yX11_isDigit : MethodName := ⟨RX11, "isDigit", "(I)Z"⟩
abbrev cX11_number : ByteArray := prog_13_method_11_code
def yX11_number : MethodName := ⟨RX11, "number", "(II)I"⟩
abbrev cX11_wordHere : ByteArray := prog_13_method_12_code
def yX11_wordHere : MethodName := ⟨RX11, "wordHere", "()I"⟩
abbrev cX11_six : ByteArray := prog_13_method_13_code
def yX11_six : MethodName := ⟨RX11, "six", "(IIIIII)I"⟩
abbrev cX11_isWord : ByteArray := prog_13_method_14_code
def yX11_isWord : MethodName := ⟨RX11, "isWord", "(IIIIII)Z"⟩
abbrev cX11_skipWord : ByteArray := prog_13_method_15_code
def yX11_skipWord : MethodName := ⟨RX11, "skipWord", "()V"⟩
abbrev cX11_closes : ByteArray := prog_13_method_16_code
def yX11_closes : MethodName := ⟨RX11, "closes", "()V"⟩
abbrev cX11_starts : ByteArray := prog_13_method_17_code
def yX11_starts : MethodName := ⟨RX11, "starts", "(I)V"⟩
abbrev cX11_kindHere : ByteArray := prog_13_method_18_code
def yX11_kindHere : MethodName := ⟨RX11, "kindHere", "()I"⟩
abbrev cX11_clause : ByteArray := prog_13_method_19_code
def yX11_clause : MethodName := ⟨RX11, "clause", "()V"⟩
abbrev cX11_siege : ByteArray := prog_13_method_20_code
def yX11_siege : MethodName := ⟨RX11, "siege", "(I)I"⟩
abbrev cX11_stands0 : ByteArray := prog_13_method_21_code
def yX11_stands0 : MethodName := ⟨RX11, "stands0", "()V"⟩
abbrev cX11_rules : ByteArray := prog_13_method_22_code
def yX11_rules : MethodName := ⟨RX11, "rules", "()V"⟩
abbrev cX11_contract : ByteArray := prog_13_method_23_code
def yX11_contract : MethodName := ⟨RX11, "contract", "(I)I"⟩
abbrev cX11_fault : ByteArray := prog_13_method_24_code
def yX11_fault : MethodName := ⟨RX11, "fault", "()I"⟩
abbrev cX11_told : ByteArray := prog_13_method_25_code
def yX11_told : MethodName := ⟨RX11, "told", "(I)I"⟩
abbrev cX11_isWall : ByteArray := prog_13_method_26_code
def yX11_isWall : MethodName := ⟨RX11, "isWall", "(I)Z"⟩
abbrev cX11_wall : ByteArray := prog_13_method_27_code
def yX11_wall : MethodName := ⟨RX11, "wall", "(II)I"⟩
abbrev cX11_isContract : ByteArray := prog_13_method_28_code
def yX11_isContract : MethodName := ⟨RX11, "isContract", "(I)Z"⟩
abbrev cX11_rule : ByteArray := prog_13_method_29_code
def yX11_rule : MethodName := ⟨RX11, "rule", "(II)I"⟩
abbrev cX11_wantsFor : ByteArray := prog_13_method_30_code
def yX11_wantsFor : MethodName := ⟨RX11, "wantsFor", "(II)I"⟩
abbrev cX11_wants : ByteArray := prog_13_method_31_code
def yX11_wants : MethodName := ⟨RX11, "wants", "(II)I"⟩
abbrev cX11_signs : ByteArray := prog_13_method_32_code
def yX11_signs : MethodName := ⟨RX11, "signs", "(I)V"⟩
abbrev cX11_sign : ByteArray := prog_13_method_33_code
def yX11_sign : MethodName := ⟨RX11, "sign", "(I)I"⟩
abbrev cX11_less : ByteArray := prog_13_method_34_code
def yX11_less : MethodName := ⟨RX11, "less", "(II)I"⟩
abbrev cX11_pays : ByteArray := prog_13_method_35_code
def yX11_pays : MethodName := ⟨RX11, "pays", "(III)V"⟩
abbrev cX11_fears : ByteArray := prog_13_method_36_code
def yX11_fears : MethodName := ⟨RX11, "fears", "(I)V"⟩
abbrev cX11_weakest : ByteArray := prog_13_method_37_code
def yX11_weakest : MethodName := ⟨RX11, "weakest", "()I"⟩
abbrev cX11_shoots : ByteArray := prog_13_method_38_code
def yX11_shoots : MethodName := ⟨RX11, "shoots", "([I[I)V"⟩
abbrev cX11_underContract : ByteArray := prog_13_method_39_code
def yX11_underContract : MethodName := ⟨RX11, "underContract", "()V"⟩
abbrev cX11_mends : ByteArray := prog_13_method_40_code
def yX11_mends : MethodName := ⟨RX11, "mends", "()V"⟩
abbrev cX11_monthGoes : ByteArray := prog_13_method_41_code
def yX11_monthGoes : MethodName := ⟨RX11, "monthGoes", "()V"⟩
abbrev cX11_deserts : ByteArray := prog_13_method_42_code
def yX11_deserts : MethodName := ⟨RX11, "deserts", "()V"⟩
abbrev cX11_puts : ByteArray := prog_13_method_43_code
def yX11_puts : MethodName := ⟨RX11, "puts", "()V"⟩
abbrev cX11_takes : ByteArray := prog_13_method_44_code
def yX11_takes : MethodName := ⟨RX11, "takes", "()V"⟩
abbrev cX11_goesOn : ByteArray := prog_13_method_45_code
def yX11_goesOn : MethodName := ⟨RX11, "goesOn", "(I)V"⟩
abbrev cX11_months : ByteArray := prog_13_method_46_code
def yX11_months : MethodName := ⟨RX11, "months", "(I)I"⟩
abbrev cX11_undo : ByteArray := prog_13_method_47_code
def yX11_undo : MethodName := ⟨RX11, "undo", "(I)I"⟩
abbrev cX11_sums : ByteArray := prog_13_method_48_code
def yX11_sums : MethodName := ⟨RX11, "sums", "(I)I"⟩
abbrev cX11_corks : ByteArray := prog_13_method_49_code
def yX11_corks : MethodName := ⟨RX11, "corks", "(II)I"⟩
abbrev cX11_areMonths : ByteArray := prog_13_method_50_code
def yX11_areMonths : MethodName := ⟨RX11, "areMonths", "(I)Z"⟩
abbrev cX11_by : ByteArray := prog_13_method_51_code
def yX11_by : MethodName := ⟨RX11, "by", "(III)I"⟩
abbrev cX11_would : ByteArray := prog_13_method_52_code
def yX11_would : MethodName := ⟨RX11, "would", "(III)I"⟩
abbrev cX11_best : ByteArray := prog_13_method_53_code
def yX11_best : MethodName := ⟨RX11, "best", "(II)I"⟩
abbrev cX11_offer : ByteArray := prog_13_method_54_code
def yX11_offer : MethodName := ⟨RX11, "offer", "(II)I"⟩
abbrev cX11_byOffer : ByteArray := prog_13_method_55_code
def yX11_byOffer : MethodName := ⟨RX11, "byOffer", "(I)I"⟩
abbrev cX11_nearest : ByteArray := prog_13_method_56_code
def yX11_nearest : MethodName := ⟨RX11, "nearest", "(II)I"⟩
abbrev cX11_stop : ByteArray := prog_13_method_57_code
def yX11_stop : MethodName := ⟨RX11, "stop", "(II)I"⟩
abbrev cX11_odds : ByteArray := prog_13_method_58_code
def yX11_odds : MethodName := ⟨RX11, "odds", "(II)V"⟩
abbrev cX11_kind : ByteArray := prog_13_method_59_code
def yX11_kind : MethodName := ⟨RX11, "kind", "(III)V"⟩
abbrev cX11_isSeen : ByteArray := prog_13_method_60_code
def yX11_isSeen : MethodName := ⟨RX11, "isSeen", "(II)I"⟩
abbrev cX11_seen : ByteArray := prog_13_method_61_code
def yX11_seen : MethodName := ⟨RX11, "seen", "(I)I"⟩
abbrev cX11_spy : ByteArray := prog_13_method_62_code
def yX11_spy : MethodName := ⟨RX11, "spy", "(ZI)I"⟩
abbrev cX11_believed : ByteArray := prog_13_method_63_code
def yX11_believed : MethodName := ⟨RX11, "believed", "(I)J"⟩
abbrev cX11_digit : ByteArray := prog_13_method_64_code
def yX11_digit : MethodName := ⟨RX11, "digit", "(II)I"⟩
abbrev cX11_puts0 : ByteArray := prog_13_method_65_code
def yX11_puts0 : MethodName := ⟨RX11, "puts0", "(III)Z"⟩
abbrev cX11_falls : ByteArray := prog_13_method_66_code
def yX11_falls : MethodName := ⟨RX11, "falls", "(III)I"⟩
abbrev cX11_firstWalls : ByteArray := prog_13_method_67_code
def yX11_firstWalls : MethodName := ⟨RX11, "firstWalls", "()I"⟩
abbrev cX11_safeBy : ByteArray := prog_13_method_68_code
def yX11_safeBy : MethodName := ⟨RX11, "safeBy", "(III)I"⟩
abbrev cX11_sureBy : ByteArray := prog_13_method_69_code
def yX11_sureBy : MethodName := ⟨RX11, "sureBy", "(III)I"⟩
abbrev cX11_areTens : ByteArray := prog_13_method_70_code
def yX11_areTens : MethodName := ⟨RX11, "areTens", "(II)Z"⟩
abbrev cX11_earnest : ByteArray := prog_13_method_71_code
def yX11_earnest : MethodName := ⟨RX11, "earnest", "(III)I"⟩
abbrev cX11_stands : ByteArray := prog_13_method_72_code
def yX11_stands : MethodName := ⟨RX11, "stands", "(II)I"⟩
abbrev cX11_show : ByteArray := prog_13_method_73_code
def yX11_show : MethodName := ⟨RX11, "show", "(II)I"⟩
abbrev cX11_offers : ByteArray := prog_13_method_74_code
def yX11_offers : MethodName := ⟨RX11, "offers", "(III)I"⟩
abbrev cX11_laysRest : ByteArray := prog_13_method_75_code
def yX11_laysRest : MethodName := ⟨RX11, "laysRest", "()V"⟩
abbrev cX11_mayServe : ByteArray := prog_13_method_76_code
def yX11_mayServe : MethodName := ⟨RX11, "mayServe", "(II)Z"⟩
abbrev cX11_mostNow : ByteArray := prog_13_method_77_code
def yX11_mostNow : MethodName := ⟨RX11, "mostNow", "()I"⟩
abbrev cX11_most : ByteArray := prog_13_method_78_code
def yX11_most : MethodName := ⟨RX11, "most", "()I"⟩
abbrev cX11_serves : ByteArray := prog_13_method_79_code
def yX11_serves : MethodName := ⟨RX11, "serves", "(I)I"⟩
abbrev cX11_moves : ByteArray := prog_13_method_80_code
def yX11_moves : MethodName := ⟨RX11, "moves", "([IIZ)I"⟩
abbrev cX11_movesAll : ByteArray := prog_13_method_81_code
def yX11_movesAll : MethodName := ⟨RX11, "movesAll", "([IZ)V"⟩
abbrev cX11_image : ByteArray := prog_13_method_82_code
def yX11_image : MethodName := ⟨RX11, "image", "()I"⟩
abbrev cX11_restore : ByteArray := prog_13_method_83_code
def yX11_restore : MethodName := ⟨RX11, "restore", "()I"⟩
abbrev cX11_status : ByteArray := prog_13_method_84_code
def yX11_status : MethodName := ⟨RX11, "status", "(I)I"⟩
abbrev cX11_count : ByteArray := prog_13_method_85_code
def yX11_count : MethodName := ⟨RX11, "count", "(I)I"⟩
def RJx145de : String := "java/io/Serializable"
def TJx145de : u_T := fun k => match k with
  | _ => ("", "", "", false)
def tyJx145de : Nat → FieldType := fun k => match k with
  | _ => .int
abbrev wsJx145de0 : List Cond := u_ws RJx145de TJx145de 0
theorem nmJx145de : ∀ a, a < 0 → ∀ b, b < 0 → a ≠ b → (TJx145de a).2.1 ≠ (TJx145de b).2.1 := sorry
theorem tyJx145de_ok : ∀ k, k < 0 → parseFieldDescriptor (TJx145de k).2.2.1 = some (tyJx145de k) := sorry
def RJx9f9b0 : String := "java/lang/CharSequence"
def TJx9f9b0 : u_T := fun k => match k with
  | _ => ("", "", "", false)
def tyJx9f9b0 : Nat → FieldType := fun k => match k with
  | _ => .int
abbrev wsJx9f9b00 : List Cond := u_ws RJx9f9b0 TJx9f9b0 0
theorem nmJx9f9b0 : ∀ a, a < 0 → ∀ b, b < 0 → a ≠ b → (TJx9f9b0 a).2.1 ≠ (TJx9f9b0 b).2.1 := sorry
theorem tyJx9f9b0_ok : ∀ k, k < 0 → parseFieldDescriptor (TJx9f9b0 k).2.2.1 = some (tyJx9f9b0 k) := sorry
def RJxb160c : String := "java/lang/Comparable"
def TJxb160c : u_T := fun k => match k with
  | _ => ("", "", "", false)
def tyJxb160c : Nat → FieldType := fun k => match k with
  | _ => .int
abbrev wsJxb160c0 : List Cond := u_ws RJxb160c TJxb160c 0
theorem nmJxb160c : ∀ a, a < 0 → ∀ b, b < 0 → a ≠ b → (TJxb160c a).2.1 ≠ (TJxb160c b).2.1 := sorry
theorem tyJxb160c_ok : ∀ k, k < 0 → parseFieldDescriptor (TJxb160c k).2.2.1 = some (tyJxb160c k) := sorry
def RJ9 : String := "java/lang/Math"
def TJ9 : u_T := fun k => match k with
  | _ => ("", "", "", false)
def tyJ9 : Nat → FieldType := fun k => match k with
  | _ => .int
abbrev wsJ90 : List Cond := u_ws RJ9 TJ9 0
theorem nmJ9 : ∀ a, a < 0 → ∀ b, b < 0 → a ≠ b → (TJ9 a).2.1 ≠ (TJ9 b).2.1 := sorry
theorem tyJ9_ok : ∀ k, k < 0 → parseFieldDescriptor (TJ9 k).2.2.1 = some (tyJ9 k) := sorry
abbrev cJ9_abs_0f7a4 : ByteArray := prog_20_method_59_code
def yJ9_abs_0f7a4 : MethodName := ⟨RJ9, "abs", "(I)I"⟩
abbrev cJ9_max_7cf53 : ByteArray := prog_20_method_65_code
def yJ9_max_7cf53 : MethodName := ⟨RJ9, "max", "(II)I"⟩
abbrev cJ9_min_7cf53 : ByteArray := prog_20_method_69_code
def yJ9_min_7cf53 : MethodName := ⟨RJ9, "min", "(II)I"⟩
def RJ0 : String := "java/lang/String"
def TJ0 : u_T := fun k => match k with
  | _ => ("", "", "", false)
def tyJ0 : Nat → FieldType := fun k => match k with
  | _ => .int
abbrev wsJ00 : List Cond := u_ws RJ0 TJ0 0
theorem nmJ0 : ∀ a, a < 0 → ∀ b, b < 0 → a ≠ b → (TJ0 a).2.1 ≠ (TJ0 b).2.1 := sorry
theorem tyJ0_ok : ∀ k, k < 0 → parseFieldDescriptor (TJ0 k).2.2.1 = some (tyJ0 k) := sorry
abbrev cJ0_length_8abf5 : ByteArray := prog_22_method_54_code
def yJ0_length_8abf5 : MethodName := ⟨RJ0, "length", "()I"⟩
abbrev cJ0_charAt_5068e : ByteArray := prog_22_method_56_code
def yJ0_charAt_5068e : MethodName := ⟨RJ0, "charAt", "(I)C"⟩
abbrev cJ0_coder_7d493 : ByteArray := prog_22_method_152_code
def yJ0_coder_7d493 : MethodName := ⟨RJ0, "coder", "()B"⟩
abbrev cJ0_isLatin1_aae02 : ByteArray := prog_22_method_154_code
def yJ0_isLatin1_aae02 : MethodName := ⟨RJ0, "isLatin1", "()Z"⟩
abbrev cJ0_checkIndex_df160 : ByteArray := prog_22_method_155_code
def yJ0_checkIndex_df160 : MethodName := ⟨RJ0, "checkIndex", "(II)V"⟩
def RJ1 : String := "java/lang/StringLatin1"
def TJ1 : u_T := fun k => match k with
  | _ => ("", "", "", false)
def tyJ1 : Nat → FieldType := fun k => match k with
  | _ => .int
abbrev wsJ10 : List Cond := u_ws RJ1 TJ1 0
theorem nmJ1 : ∀ a, a < 0 → ∀ b, b < 0 → a ≠ b → (TJ1 a).2.1 ≠ (TJ1 b).2.1 := sorry
theorem tyJ1_ok : ∀ k, k < 0 → parseFieldDescriptor (TJ1 k).2.2.1 = some (tyJ1 k) := sorry
abbrev cJ1_charAt_3b067 : ByteArray := prog_23_method_2_code
def yJ1_charAt_3b067 : MethodName := ⟨RJ1, "charAt", "([BI)C"⟩
def RJ2 : String := "java/lang/StringUTF16"
def TJ2 : u_T := fun k => match k with
  | _ => ("", "", "", false)
def tyJ2 : Nat → FieldType := fun k => match k with
  | _ => .int
abbrev wsJ20 : List Cond := u_ws RJ2 TJ2 0
theorem nmJ2 : ∀ a, a < 0 → ∀ b, b < 0 → a ≠ b → (TJ2 a).2.1 ≠ (TJ2 b).2.1 := sorry
theorem tyJ2_ok : ∀ k, k < 0 → parseFieldDescriptor (TJ2 k).2.2.1 = some (tyJ2 k) := sorry
abbrev cJ2_getChar_3b067 : ByteArray := prog_24_method_5_code
def yJ2_getChar_3b067 : MethodName := ⟨RJ2, "getChar", "([BI)C"⟩
abbrev cJ2_length_9d52b : ByteArray := prog_24_method_6_code
def yJ2_length_9d52b : MethodName := ⟨RJ2, "length", "([B)I"⟩
abbrev cJ2_charAt_3b067 : ByteArray := prog_24_method_83_code
def yJ2_charAt_3b067 : MethodName := ⟨RJ2, "charAt", "([BI)C"⟩
abbrev cJ2_checkIndex_2214a : ByteArray := prog_24_method_91_code
def yJ2_checkIndex_2214a : MethodName := ⟨RJ2, "checkIndex", "(I[B)V"⟩
def RJ10 : String := "java/lang/System"
def TJ10 : u_T := fun k => match k with
  | _ => ("", "", "", false)
def tyJ10 : Nat → FieldType := fun k => match k with
  | _ => .int
abbrev wsJ100 : List Cond := u_ws RJ10 TJ10 0
theorem nmJ10 : ∀ a, a < 0 → ∀ b, b < 0 → a ≠ b → (TJ10 a).2.1 ≠ (TJ10 b).2.1 := sorry
theorem tyJ10_ok : ∀ k, k < 0 → parseFieldDescriptor (TJ10 k).2.2.1 = some (tyJ10 k) := sorry
def RJxfd54e : String := "java/lang/constant/Constable"
def TJxfd54e : u_T := fun k => match k with
  | _ => ("", "", "", false)
def tyJxfd54e : Nat → FieldType := fun k => match k with
  | _ => .int
abbrev wsJxfd54e0 : List Cond := u_ws RJxfd54e TJxfd54e 0
theorem nmJxfd54e : ∀ a, a < 0 → ∀ b, b < 0 → a ≠ b → (TJxfd54e a).2.1 ≠ (TJxfd54e b).2.1 := sorry
theorem tyJxfd54e_ok : ∀ k, k < 0 → parseFieldDescriptor (TJxfd54e k).2.2.1 = some (tyJxfd54e k) := sorry
def RJx3cf43 : String := "java/lang/constant/ConstantDesc"
def TJx3cf43 : u_T := fun k => match k with
  | _ => ("", "", "", false)
def tyJx3cf43 : Nat → FieldType := fun k => match k with
  | _ => .int
abbrev wsJx3cf430 : List Cond := u_ws RJx3cf43 TJx3cf43 0
theorem nmJx3cf43 : ∀ a, a < 0 → ∀ b, b < 0 → a ≠ b → (TJx3cf43 a).2.1 ≠ (TJx3cf43 b).2.1 := sorry
theorem tyJx3cf43_ok : ∀ k, k < 0 → parseFieldDescriptor (TJx3cf43 k).2.2.1 = some (tyJx3cf43 k) := sorry
def RJ7 : String := "java/util/Arrays"
def TJ7 : u_T := fun k => match k with
  | _ => ("", "", "", false)
def tyJ7 : Nat → FieldType := fun k => match k with
  | _ => .int
abbrev wsJ70 : List Cond := u_ws RJ7 TJ7 0
theorem nmJ7 : ∀ a, a < 0 → ∀ b, b < 0 → a ≠ b → (TJ7 a).2.1 ≠ (TJ7 b).2.1 := sorry
theorem tyJ7_ok : ∀ k, k < 0 → parseFieldDescriptor (TJ7 k).2.2.1 = some (tyJ7 k) := sorry
abbrev cJ7_fill_53178 : ByteArray := prog_29_method_103_code
def yJ7_fill_53178 : MethodName := ⟨RJ7, "fill", "([II)V"⟩
def RJ3 : String := "jdk/internal/util/Preconditions"
def TJ3 : u_T := fun k => match k with
  | _ => ("", "", "", false)
def tyJ3 : Nat → FieldType := fun k => match k with
  | _ => .int
abbrev wsJ30 : List Cond := u_ws RJ3 TJ3 0
theorem nmJ3 : ∀ a, a < 0 → ∀ b, b < 0 → a ≠ b → (TJ3 a).2.1 ≠ (TJ3 b).2.1 := sorry
theorem tyJ3_ok : ∀ k, k < 0 → parseFieldDescriptor (TJ3 k).2.2.1 = some (tyJ3 k) := sorry
abbrev cJ3_checkIndex_8e157 : ByteArray := prog_31_method_11_code
def yJ3_checkIndex_8e157 : MethodName := ⟨RJ3, "checkIndex", "(IILjava/util/function/BiFunction;)I"⟩
def wsX0_init : List Cond := .code yX0_init cX0_init 1 none :: ([.methodLink RX0 3 objectInit, .instanceMethod objectInit, .code objectInit ⟨#[0xb1]⟩ 1 none, .arrayClass .int, .fieldLink RX0 11 "HiredEnemy$Annals" "lines" "[I"] ++ wsX00)
def wsX10_within : List Cond := .code yX10_within cX10_within 3 (some .boolean) :: ([])
def wsX0_keep : List Cond := .code yX0_keep cX0_keep 2 none :: ([.fieldLink RX0 15 "HiredEnemy$Course" "month" "I", .fieldLink RX0 25 "HiredEnemy$Course" "now" "[I", .fieldLink RX0 11 "HiredEnemy$Annals" "lines" "[I", .methodLink RX0 28 arraycopyName, .native arraycopyName, .static arraycopyName, .initialized "java/lang/System", .static yX10_within, .initialized RX10, .code yX10_within cX10_within 3 (some .boolean)] ++ wsX40 ++ wsX00)
def wsX0_lead : List Cond := .code yX0_lead cX0_lead 2 none :: ([.fieldLink RX0 15 "HiredEnemy$Course" "month" "I", .fieldLink RX0 34 "HiredEnemy$Course" "shot" "[I", .fieldLink RX0 11 "HiredEnemy$Annals" "lines" "[I", .methodLink RX0 28 arraycopyName, .native arraycopyName, .static arraycopyName, .initialized "java/lang/System", .static yX10_within, .initialized RX10, .code yX10_within cX10_within 3 (some .boolean)] ++ wsX40 ++ wsX00)
def wsX0_giveBack : List Cond := .code yX0_giveBack cX0_giveBack 3 none :: ([.fieldLink RX0 11 "HiredEnemy$Annals" "lines" "[I", .fieldLink RX0 25 "HiredEnemy$Course" "now" "[I", .methodLink RX0 28 arraycopyName, .native arraycopyName, .static arraycopyName, .initialized "java/lang/System", .fieldLink RX0 15 "HiredEnemy$Course" "month" "I", .static yX10_within, .initialized RX10, .code yX10_within cX10_within 3 (some .boolean)] ++ wsX00 ++ wsX40)
def wsX0_shotAt : List Cond := .code yX0_shotAt cX0_shotAt 3 (some .int) :: ([.fieldLink RX0 11 "HiredEnemy$Annals" "lines" "[I"] ++ wsX00)
def wsX0_take : List Cond := .code yX0_take cX0_take 3 none :: ([.fieldLink RX0 11 "HiredEnemy$Annals" "lines" "[I", .methodLink RX0 28 arraycopyName, .native arraycopyName, .static arraycopyName, .initialized "java/lang/System", .static yX10_within, .initialized RX10, .code yX10_within cX10_within 3 (some .boolean)] ++ wsX00)
def wsX1_init : List Cond := .code yX1_init cX1_init 1 none :: ([.methodLink RX1 5 objectInit, .instanceMethod objectInit, .code objectInit ⟨#[0xb1]⟩ 1 none, .arrayClass .int, .fieldLink RX1 11 "HiredEnemy$Battle" "worth" "[I", .fieldLink RX1 15 "HiredEnemy$Battle" "held" "[I", .fieldLink RX1 18 "HiredEnemy$Battle" "put" "[I"] ++ wsX10)
def wsX1_prepare : List Cond := .code yX1_prepare cX1_prepare 3 none :: ([.fieldLink RX1 21 "HiredEnemy$Plan" "walls" "I", .methodLink RX1 27 Lib.Math.min.name, .static Lib.Math.min.name, .initialized "java/lang/Math", .code Lib.Math.min.name Lib.Math.min.code 2 (some .int), .fieldLink RX1 33 "HiredEnemy$Battle" "walls" "I", .fieldLink RX1 11 "HiredEnemy$Battle" "worth" "[I", .fieldLink RX1 34 "HiredEnemy$Plan" "strength" "[I", .fieldLink RX1 15 "HiredEnemy$Battle" "held" "[I"] ++ wsX60 ++ wsX10)
def wsX1_all : List Cond := .code yX1_all cX1_all 1 (some .int) :: ([.fieldLink RX1 33 "HiredEnemy$Battle" "walls" "I"] ++ wsX10)
def wsX1_place : List Cond := .code yX1_place cX1_place 6 (some .boolean) :: ([.fieldLink RX1 18 "HiredEnemy$Battle" "put" "[I"] ++ wsX10)
def wsX1_menToFell : List Cond := .code yX1_menToFell cX1_menToFell 4 (some .int) :: ([.fieldLink RX1 18 "HiredEnemy$Battle" "put" "[I", .fieldLink RX1 15 "HiredEnemy$Battle" "held" "[I"] ++ wsX10)
def wsX1_worthOf : List Cond := .code yX1_worthOf cX1_worthOf 4 (some .int) :: ([.fieldLink RX1 11 "HiredEnemy$Battle" "worth" "[I"] ++ wsX10)
def wsX1_mostFelled : List Cond := .code yX1_mostFelled cX1_mostFelled 5 (some .int) :: ([.methodLink RX1 51 Lib.Math.max.name, .static Lib.Math.max.name, .initialized "java/lang/Math", .code Lib.Math.max.name Lib.Math.max.code 2 (some .int), .methodLink RX1 61 yX1_menToFell, .instanceMethod yX1_menToFell, .selects RX1 yX1_menToFell yX1_menToFell, .initialized RX1, .code yX1_menToFell cX1_menToFell 4 (some .int), .fieldLink RX1 18 "HiredEnemy$Battle" "put" "[I", .fieldLink RX1 15 "HiredEnemy$Battle" "held" "[I", .methodLink RX1 64 yX1_worthOf, .instanceMethod yX1_worthOf, .selects RX1 yX1_worthOf yX1_worthOf, .code yX1_worthOf cX1_worthOf 4 (some .int), .fieldLink RX1 11 "HiredEnemy$Battle" "worth" "[I"] ++ wsX10)
def wsX1_digits : List Cond := .code yX1_digits cX1_digits 3 (some .int) :: ([.fieldLink RX1 33 "HiredEnemy$Battle" "walls" "I", .fieldLink RX1 18 "HiredEnemy$Battle" "put" "[I"] ++ wsX10)
def wsX1_safe_r1 : List Cond := [Cond.fieldLink RX1 37 "HiredEnemy$Battle" "safeDigits" "I", Cond.methodLink RX1 51 Lib.Math.max.name, Cond.static Lib.Math.max.name, Cond.initialized "java/lang/Math", Cond.code Lib.Math.max.name Lib.Math.max.code 2 (some .int), Cond.methodLink RX1 40 yX1_place, Cond.instanceMethod yX1_place, Cond.selects RX1 yX1_place yX1_place, Cond.initialized RX1, Cond.code yX1_place cX1_place 6 (some .boolean), Cond.fieldLink RX1 18 "HiredEnemy$Battle" "put" "[I", Cond.methodLink RX1 44 yX1_mostFelled, Cond.instanceMethod yX1_mostFelled, Cond.selects RX1 yX1_mostFelled yX1_mostFelled, Cond.code yX1_mostFelled cX1_mostFelled 5 (some .int), Cond.methodLink RX1 61 yX1_menToFell, Cond.instanceMethod yX1_menToFell, Cond.selects RX1 yX1_menToFell yX1_menToFell, Cond.code yX1_menToFell cX1_menToFell 4 (some .int), Cond.fieldLink RX1 15 "HiredEnemy$Battle" "held" "[I", Cond.methodLink RX1 64 yX1_worthOf, Cond.instanceMethod yX1_worthOf, Cond.selects RX1 yX1_worthOf yX1_worthOf, Cond.code yX1_worthOf cX1_worthOf 4 (some .int)]
def wsX1_safe_r2 : List Cond := [Cond.fieldLink RX1 11 "HiredEnemy$Battle" "worth" "[I", Cond.methodLink RX1 47 yX1_digits, Cond.instanceMethod yX1_digits, Cond.selects RX1 yX1_digits yX1_digits, Cond.code yX1_digits cX1_digits 3 (some .int), Cond.fieldLink RX1 33 "HiredEnemy$Battle" "walls" "I"]
def wsX1_safe : List Cond := .code yX1_safe cX1_safe 8 (some .int) :: ((wsX1_safe_r1 ++ wsX1_safe_r2) ++ wsX10)
def wsX1_menToHold : List Cond := .code yX1_menToHold cX1_menToHold 4 (some .int) :: ([.fieldLink RX1 18 "HiredEnemy$Battle" "put" "[I", .fieldLink RX1 15 "HiredEnemy$Battle" "held" "[I", .methodLink RX1 51 Lib.Math.max.name, .static Lib.Math.max.name, .initialized "java/lang/Math", .code Lib.Math.max.name Lib.Math.max.code 2 (some .int)] ++ wsX10)
def wsX1_leastFelled : List Cond := .code yX1_leastFelled cX1_leastFelled 4 (some .int) :: ([.methodLink RX1 51 Lib.Math.max.name, .static Lib.Math.max.name, .initialized "java/lang/Math", .code Lib.Math.max.name Lib.Math.max.code 2 (some .int), .methodLink RX1 54 yX1_all, .instanceMethod yX1_all, .selects RX1 yX1_all yX1_all, .initialized RX1, .code yX1_all cX1_all 1 (some .int), .fieldLink RX1 33 "HiredEnemy$Battle" "walls" "I", .methodLink RX1 67 yX1_menToHold, .instanceMethod yX1_menToHold, .selects RX1 yX1_menToHold yX1_menToHold, .code yX1_menToHold cX1_menToHold 4 (some .int), .fieldLink RX1 18 "HiredEnemy$Battle" "put" "[I", .fieldLink RX1 15 "HiredEnemy$Battle" "held" "[I", .methodLink RX1 64 yX1_worthOf, .instanceMethod yX1_worthOf, .selects RX1 yX1_worthOf yX1_worthOf, .code yX1_worthOf cX1_worthOf 4 (some .int), .fieldLink RX1 11 "HiredEnemy$Battle" "worth" "[I"] ++ wsX10)
def wsX1_sure_r1 : List Cond := [Cond.methodLink RX1 51 Lib.Math.max.name, Cond.static Lib.Math.max.name, Cond.initialized "java/lang/Math", Cond.code Lib.Math.max.name Lib.Math.max.code 2 (some .int), Cond.methodLink RX1 54 yX1_all, Cond.instanceMethod yX1_all, Cond.selects RX1 yX1_all yX1_all, Cond.initialized RX1, Cond.code yX1_all cX1_all 1 (some .int), Cond.fieldLink RX1 33 "HiredEnemy$Battle" "walls" "I", Cond.methodLink RX1 40 yX1_place, Cond.instanceMethod yX1_place, Cond.selects RX1 yX1_place yX1_place, Cond.code yX1_place cX1_place 6 (some .boolean), Cond.fieldLink RX1 18 "HiredEnemy$Battle" "put" "[I", Cond.methodLink RX1 57 yX1_leastFelled, Cond.instanceMethod yX1_leastFelled, Cond.selects RX1 yX1_leastFelled yX1_leastFelled, Cond.code yX1_leastFelled cX1_leastFelled 4 (some .int), Cond.methodLink RX1 67 yX1_menToHold, Cond.instanceMethod yX1_menToHold, Cond.selects RX1 yX1_menToHold yX1_menToHold, Cond.code yX1_menToHold cX1_menToHold 4 (some .int), Cond.fieldLink RX1 15 "HiredEnemy$Battle" "held" "[I"]
def wsX1_sure_r2 : List Cond := [Cond.methodLink RX1 64 yX1_worthOf, Cond.instanceMethod yX1_worthOf, Cond.selects RX1 yX1_worthOf yX1_worthOf, Cond.code yX1_worthOf cX1_worthOf 4 (some .int), Cond.fieldLink RX1 11 "HiredEnemy$Battle" "worth" "[I"]
def wsX1_sure : List Cond := .code yX1_sure cX1_sure 6 (some .int) :: ((wsX1_sure_r1 ++ wsX1_sure_r2) ++ wsX10)
def wsX2_init : List Cond := .code yX2_init cX2_init 1 none :: ([.methodLink RX2 1 objectInit, .instanceMethod objectInit, .code objectInit ⟨#[0xb1]⟩ 1 none, .arrayClass .int, .fieldLink RX2 7 "HiredEnemy$Belief" "ifReal" "[I", .fieldLink RX2 13 "HiredEnemy$Belief" "ifHired" "[I", .fieldLink RX2 16 "HiredEnemy$Belief" "firstReal" "I", .fieldLink RX2 20 "HiredEnemy$Belief" "firstHired" "I", .fieldLink RX2 23 "HiredEnemy$Belief" "real" "J", .fieldLink RX2 27 "HiredEnemy$Belief" "hired" "J"] ++ wsX20)
def wsX2_forget : List Cond := .code yX2_forget cX2_forget 1 none :: ([.fieldLink RX2 16 "HiredEnemy$Belief" "firstReal" "I", .fieldLink RX2 23 "HiredEnemy$Belief" "real" "J", .fieldLink RX2 20 "HiredEnemy$Belief" "firstHired" "I", .fieldLink RX2 27 "HiredEnemy$Belief" "hired" "J", .fieldLink RX2 33 "HiredEnemy$Belief" "things" "I"] ++ wsX20)
def wsX2_start : List Cond := .code yX2_start cX2_start 3 none :: ([.fieldLink RX2 16 "HiredEnemy$Belief" "firstReal" "I", .fieldLink RX2 20 "HiredEnemy$Belief" "firstHired" "I", .methodLink RX2 30 yX2_forget, .instanceMethod yX2_forget, .selects RX2 yX2_forget yX2_forget, .initialized RX2, .code yX2_forget cX2_forget 1 none, .fieldLink RX2 23 "HiredEnemy$Belief" "real" "J", .fieldLink RX2 27 "HiredEnemy$Belief" "hired" "J", .fieldLink RX2 33 "HiredEnemy$Belief" "things" "I"] ++ wsX20)
def wsX2_add : List Cond := .code yX2_add cX2_add 3 (some .int) :: ([.fieldLink RX2 33 "HiredEnemy$Belief" "things" "I", .fieldLink RX2 23 "HiredEnemy$Belief" "real" "J", .fieldLink RX2 27 "HiredEnemy$Belief" "hired" "J"] ++ wsX20)
def wsX2_leastTerm : List Cond := .code yX2_leastTerm cX2_leastTerm 9 (some .long) :: ([.fieldLink RX2 23 "HiredEnemy$Belief" "real" "J", .fieldLink RX2 27 "HiredEnemy$Belief" "hired" "J"] ++ wsX20)
def wsX2_take : List Cond := .code yX2_take cX2_take 2 none :: ([.fieldLink RX2 7 "HiredEnemy$Belief" "ifReal" "[I", .methodLink RX2 36 arraycopyName, .native arraycopyName, .static arraycopyName, .initialized "java/lang/System", .fieldLink RX2 13 "HiredEnemy$Belief" "ifHired" "[I", .fieldLink RX2 16 "HiredEnemy$Belief" "firstReal" "I", .fieldLink RX2 20 "HiredEnemy$Belief" "firstHired" "I", .fieldLink RX2 23 "HiredEnemy$Belief" "real" "J", .fieldLink RX2 27 "HiredEnemy$Belief" "hired" "J", .fieldLink RX2 33 "HiredEnemy$Belief" "things" "I"] ++ wsX20)
def wsX3_init : List Cond := .code yX3_init cX3_init 1 none :: ([.methodLink RX3 1 objectInit, .instanceMethod objectInit, .code objectInit ⟨#[0xb1]⟩ 1 none, .arrayClass .int, .fieldLink RX3 9 "HiredEnemy$Bids" "coins" "[I", .fieldLink RX3 13 "HiredEnemy$Bids" "rest" "[I"] ++ wsX30)
def wsJ7_fill_53178 : List Cond := .code yJ7_fill_53178 cJ7_fill_53178 4 none :: ([])
def wsX3_clear : List Cond := .code yX3_clear cX3_clear 1 none :: ([.fieldLink RX3 9 "HiredEnemy$Bids" "coins" "[I", .methodLink RX3 16 yJ7_fill_53178, .static yJ7_fill_53178, .initialized RJ7, .code yJ7_fill_53178 cJ7_fill_53178 4 none] ++ wsX30)
def wsX3_bid : List Cond := .code yX3_bid cX3_bid 6 (some .int) :: ([.fieldLink RX3 9 "HiredEnemy$Bids" "coins" "[I"] ++ wsX30)
def wsX3_mayFollow : List Cond := .code yX3_mayFollow cX3_mayFollow 2 (some .boolean) :: ([])
def wsX3_through : List Cond := .code yX3_through cX3_through 3 (some .int) :: ([.fieldLink RX3 9 "HiredEnemy$Bids" "coins" "[I", .fieldLink RX3 13 "HiredEnemy$Bids" "rest" "[I"] ++ wsX30)
def wsX3_mostFrom : List Cond := .code yX3_mostFrom cX3_mostFrom 5 (some .int) :: ([.methodLink RX3 33 Lib.Math.max.name, .static Lib.Math.max.name, .initialized "java/lang/Math", .code Lib.Math.max.name Lib.Math.max.code 2 (some .int), .methodLink RX3 26 yX3_mayFollow, .static yX3_mayFollow, .initialized RX3, .code yX3_mayFollow cX3_mayFollow 2 (some .boolean), .methodLink RX3 30 yX3_through, .instanceMethod yX3_through, .selects RX3 yX3_through yX3_through, .code yX3_through cX3_through 3 (some .int), .fieldLink RX3 9 "HiredEnemy$Bids" "coins" "[I", .fieldLink RX3 13 "HiredEnemy$Bids" "rest" "[I"] ++ wsX30)
def wsX3_mostCoin : List Cond := .code yX3_mostCoin cX3_mostCoin 3 (some .int) :: ([.fieldLink RX3 13 "HiredEnemy$Bids" "rest" "[I", .methodLink RX3 22 yX3_mostFrom, .instanceMethod yX3_mostFrom, .selects RX3 yX3_mostFrom yX3_mostFrom, .initialized RX3, .code yX3_mostFrom cX3_mostFrom 5 (some .int), .methodLink RX3 33 Lib.Math.max.name, .static Lib.Math.max.name, .initialized "java/lang/Math", .code Lib.Math.max.name Lib.Math.max.code 2 (some .int), .methodLink RX3 26 yX3_mayFollow, .static yX3_mayFollow, .code yX3_mayFollow cX3_mayFollow 2 (some .boolean), .methodLink RX3 30 yX3_through, .instanceMethod yX3_through, .selects RX3 yX3_through yX3_through, .code yX3_through cX3_through 3 (some .int), .fieldLink RX3 9 "HiredEnemy$Bids" "coins" "[I"] ++ wsX30)
def wsX3_firstWay : List Cond := .code yX3_firstWay cX3_firstWay 4 (some .int) :: ([.fieldLink RX3 13 "HiredEnemy$Bids" "rest" "[I", .methodLink RX3 26 yX3_mayFollow, .static yX3_mayFollow, .initialized RX3, .code yX3_mayFollow cX3_mayFollow 2 (some .boolean), .methodLink RX3 30 yX3_through, .instanceMethod yX3_through, .selects RX3 yX3_through yX3_through, .code yX3_through cX3_through 3 (some .int), .fieldLink RX3 9 "HiredEnemy$Bids" "coins" "[I"] ++ wsX30)
def wsX3_served_r1 : List Cond := [Cond.methodLink RX3 38 yX3_mostCoin, Cond.instanceMethod yX3_mostCoin, Cond.selects RX3 yX3_mostCoin yX3_mostCoin, Cond.initialized RX3, Cond.code yX3_mostCoin cX3_mostCoin 3 (some .int), Cond.fieldLink RX3 13 "HiredEnemy$Bids" "rest" "[I", Cond.methodLink RX3 22 yX3_mostFrom, Cond.instanceMethod yX3_mostFrom, Cond.selects RX3 yX3_mostFrom yX3_mostFrom, Cond.code yX3_mostFrom cX3_mostFrom 5 (some .int), Cond.methodLink RX3 33 Lib.Math.max.name, Cond.static Lib.Math.max.name, Cond.initialized "java/lang/Math", Cond.code Lib.Math.max.name Lib.Math.max.code 2 (some .int), Cond.methodLink RX3 26 yX3_mayFollow, Cond.static yX3_mayFollow, Cond.code yX3_mayFollow cX3_mayFollow 2 (some .boolean), Cond.methodLink RX3 30 yX3_through, Cond.instanceMethod yX3_through, Cond.selects RX3 yX3_through yX3_through, Cond.code yX3_through cX3_through 3 (some .int), Cond.fieldLink RX3 9 "HiredEnemy$Bids" "coins" "[I", Cond.methodLink RX3 42 yX3_firstWay, Cond.instanceMethod yX3_firstWay]
def wsX3_served_r2 : List Cond := [Cond.selects RX3 yX3_firstWay yX3_firstWay, Cond.code yX3_firstWay cX3_firstWay 4 (some .int)]
def wsX3_served : List Cond := .code yX3_served cX3_served 4 (some .int) :: ((wsX3_served_r1 ++ wsX3_served_r2) ++ wsX30)
def wsX3_take : List Cond := .code yX3_take cX3_take 2 none :: ([.fieldLink RX3 9 "HiredEnemy$Bids" "coins" "[I", .methodLink RX3 45 arraycopyName, .native arraycopyName, .static arraycopyName, .initialized "java/lang/System"] ++ wsX30)
def wsX4_init : List Cond := .code yX4_init cX4_init 1 none :: ([.methodLink RX4 3 objectInit, .instanceMethod objectInit, .code objectInit ⟨#[0xb1]⟩ 1 none, .arrayClass .int, .fieldLink RX4 9 "HiredEnemy$Course" "now" "[I", .fieldLink RX4 15 "HiredEnemy$Course" "shot" "[I"] ++ wsX40)
def wsX4_begin : List Cond := .code yX4_begin cX4_begin 3 none :: ([.fieldLink RX4 18 "HiredEnemy$Course" "month" "I", .fieldLink RX4 9 "HiredEnemy$Course" "now" "[I", .fieldLink RX4 28 "HiredEnemy$Plan" "said" "[I", .fieldLink RX4 33 "HiredEnemy$Plan" "walls" "I", .fieldLink RX4 36 "HiredEnemy$Plan" "strength" "[I", .methodLink RX4 22 yJ7_fill_53178, .static yJ7_fill_53178, .initialized RJ7, .code yJ7_fill_53178 cJ7_fill_53178 4 none] ++ wsX40 ++ wsX60)
def wsX4_take : List Cond := .code yX4_take cX4_take 2 none :: ([.fieldLink RX4 9 "HiredEnemy$Course" "now" "[I", .methodLink RX4 39 arraycopyName, .native arraycopyName, .static arraycopyName, .initialized "java/lang/System", .fieldLink RX4 18 "HiredEnemy$Course" "month" "I"] ++ wsX40)
def wsX4_pledge : List Cond := .code yX4_pledge cX4_pledge 2 none :: ([.fieldLink RX4 9 "HiredEnemy$Course" "now" "[I", .fieldLink RX4 18 "HiredEnemy$Course" "month" "I"] ++ wsX40)
def wsX4_move : List Cond := .code yX4_move cX4_move 5 none :: ([.fieldLink RX4 9 "HiredEnemy$Course" "now" "[I", .methodLink RX4 81 Lib.Math.min.name, .static Lib.Math.min.name, .initialized "java/lang/Math", .code Lib.Math.min.name Lib.Math.min.code 2 (some .int)] ++ wsX40)
def wsX5_winterPay : List Cond := .code yX5_winterPay cX5_winterPay 1 (some .int) :: ([.fieldLink RX5 11 "HiredEnemy$Pact" "said" "[I"] ++ wsX50)
def wsX5_payIn : List Cond := .code yX5_payIn cX5_payIn 3 (some .int) :: ([.fieldLink RX5 11 "HiredEnemy$Pact" "said" "[I", .methodLink RX5 45 yX5_winterPay, .instanceMethod yX5_winterPay, .selects RX5 yX5_winterPay yX5_winterPay, .initialized RX5, .code yX5_winterPay cX5_winterPay 1 (some .int)] ++ wsX50)
def wsX4_isPaid : List Cond := .code yX4_isPaid cX4_isPaid 3 (some .boolean) :: ([.fieldLink RX4 18 "HiredEnemy$Course" "month" "I", .fieldLink RX4 9 "HiredEnemy$Course" "now" "[I", .methodLink RX4 84 yX5_payIn, .instanceMethod yX5_payIn, .selects RX5 yX5_payIn yX5_payIn, .initialized RX5, .code yX5_payIn cX5_payIn 3 (some .int), .fieldLink RX5 11 "HiredEnemy$Pact" "said" "[I", .methodLink RX5 45 yX5_winterPay, .instanceMethod yX5_winterPay, .selects RX5 yX5_winterPay yX5_winterPay, .code yX5_winterPay cX5_winterPay 1 (some .int), .methodLink RX4 45 yX4_move, .instanceMethod yX4_move, .selects RX4 yX4_move yX4_move, .initialized RX4, .code yX4_move cX4_move 5 none, .methodLink RX4 81 Lib.Math.min.name, .static Lib.Math.min.name, .initialized "java/lang/Math", .code Lib.Math.min.name Lib.Math.min.code 2 (some .int)] ++ wsX40 ++ wsX50)
def wsX5_wallDue : List Cond := .code yX5_wallDue cX5_wallDue 4 (some .int) :: ([.fieldLink RX5 15 "HiredEnemy$Pact" "wallByMonth" "[I", .static yX10_within, .initialized RX10, .code yX10_within cX10_within 3 (some .boolean)] ++ wsX50)
def wsX4_weakest : List Cond := .code yX4_weakest cX4_weakest 4 (some .int) :: ([.fieldLink RX4 9 "HiredEnemy$Course" "now" "[I"] ++ wsX40)
def wsX4_frighten : List Cond := .code yX4_frighten cX4_frighten 2 none :: ([.fieldLink RX4 9 "HiredEnemy$Course" "now" "[I", .methodLink RX4 81 Lib.Math.min.name, .static Lib.Math.min.name, .initialized "java/lang/Math", .code Lib.Math.min.name Lib.Math.min.code 2 (some .int)] ++ wsX40)
def wsX4_breach : List Cond := .code yX4_breach cX4_breach 4 none :: ([.fieldLink RX4 9 "HiredEnemy$Course" "now" "[I", .fieldLink RX4 36 "HiredEnemy$Plan" "strength" "[I", .fieldLink RX4 28 "HiredEnemy$Plan" "said" "[I", .fieldLink RX4 57 "HiredEnemy$Pact" "said" "[I", .methodLink RX4 64 yX4_frighten, .instanceMethod yX4_frighten, .selects RX4 yX4_frighten yX4_frighten, .initialized RX4, .code yX4_frighten cX4_frighten 2 none, .methodLink RX4 81 Lib.Math.min.name, .static Lib.Math.min.name, .initialized "java/lang/Math", .code Lib.Math.min.name Lib.Math.min.code 2 (some .int), .methodLink RX4 45 yX4_move, .instanceMethod yX4_move, .selects RX4 yX4_move yX4_move, .code yX4_move cX4_move 5 none] ++ wsX40 ++ wsX60 ++ wsX50)
def wsX4_shoot_r1 : List Cond := [Cond.fieldLink RX4 18 "HiredEnemy$Course" "month" "I", Cond.fieldLink RX4 9 "HiredEnemy$Course" "now" "[I", Cond.fieldLink RX4 33 "HiredEnemy$Plan" "walls" "I", Cond.fieldLink RX4 57 "HiredEnemy$Pact" "said" "[I", Cond.fieldLink RX4 15 "HiredEnemy$Course" "shot" "[I", Cond.methodLink RX4 87 yX5_wallDue, Cond.instanceMethod yX5_wallDue, Cond.selects RX5 yX5_wallDue yX5_wallDue, Cond.initialized RX5, Cond.code yX5_wallDue cX5_wallDue 4 (some .int), Cond.fieldLink RX5 15 "HiredEnemy$Pact" "wallByMonth" "[I", Cond.static yX10_within, Cond.initialized RX10, Cond.code yX10_within cX10_within 3 (some .boolean), Cond.methodLink RX4 90 yX4_weakest, Cond.instanceMethod yX4_weakest, Cond.selects RX4 yX4_weakest yX4_weakest, Cond.initialized RX4, Cond.code yX4_weakest cX4_weakest 4 (some .int), Cond.methodLink RX4 93 yX4_breach, Cond.instanceMethod yX4_breach, Cond.selects RX4 yX4_breach yX4_breach, Cond.code yX4_breach cX4_breach 4 none, Cond.fieldLink RX4 36 "HiredEnemy$Plan" "strength" "[I"]
def wsX4_shoot_r2 : List Cond := [Cond.fieldLink RX4 28 "HiredEnemy$Plan" "said" "[I", Cond.methodLink RX4 64 yX4_frighten, Cond.instanceMethod yX4_frighten, Cond.selects RX4 yX4_frighten yX4_frighten, Cond.code yX4_frighten cX4_frighten 2 none, Cond.methodLink RX4 81 Lib.Math.min.name, Cond.static Lib.Math.min.name, Cond.initialized "java/lang/Math", Cond.code Lib.Math.min.name Lib.Math.min.code 2 (some .int), Cond.methodLink RX4 45 yX4_move, Cond.instanceMethod yX4_move, Cond.selects RX4 yX4_move yX4_move, Cond.code yX4_move cX4_move 5 none]
def wsX4_shoot : List Cond := .code yX4_shoot cX4_shoot 9 none :: ((wsX4_shoot_r1 ++ wsX4_shoot_r2) ++ wsX40 ++ wsX60 ++ wsX50)
def wsX6_fearAt : List Cond := .code yX6_fearAt cX6_fearAt 2 (some .int) :: ([.fieldLink RX6 18 "HiredEnemy$Plan" "fearByNear" "[I", .static yX10_within, .initialized RX10, .code yX10_within cX10_within 3 (some .boolean)] ++ wsX60)
def wsX4_mend : List Cond := .code yX4_mend cX4_mend 5 none :: ([.fieldLink RX4 28 "HiredEnemy$Plan" "said" "[I", .fieldLink RX4 33 "HiredEnemy$Plan" "walls" "I", .fieldLink RX4 97 "HiredEnemy$Plan" "mended" "[I", .fieldLink RX4 36 "HiredEnemy$Plan" "strength" "[I", .fieldLink RX4 9 "HiredEnemy$Course" "now" "[I", .methodLink RX4 81 Lib.Math.min.name, .static Lib.Math.min.name, .initialized "java/lang/Math", .code Lib.Math.min.name Lib.Math.min.code 2 (some .int), .methodLink RX4 45 yX4_move, .instanceMethod yX4_move, .selects RX4 yX4_move yX4_move, .initialized RX4, .code yX4_move cX4_move 5 none] ++ wsX60 ++ wsX40)
def wsX4_desert : List Cond := .code yX4_desert cX4_desert 5 none :: ([.fieldLink RX4 9 "HiredEnemy$Course" "now" "[I", .methodLink RX4 100 Lib.Math.abs.name, .static Lib.Math.abs.name, .initialized "java/lang/Math", .code Lib.Math.abs.name Lib.Math.abs.code 1 (some .int)] ++ wsX40)
def wsX4_pass_r1 : List Cond := [Cond.fieldLink RX4 15 "HiredEnemy$Course" "shot" "[I", Cond.fieldLink RX4 9 "HiredEnemy$Course" "now" "[I", Cond.fieldLink RX4 28 "HiredEnemy$Plan" "said" "[I", Cond.fieldLink RX4 57 "HiredEnemy$Pact" "said" "[I", Cond.methodLink RX4 68 Lib.Math.max.name, Cond.static Lib.Math.max.name, Cond.initialized "java/lang/Math", Cond.code Lib.Math.max.name Lib.Math.max.code 2 (some .int), Cond.fieldLink RX4 18 "HiredEnemy$Course" "month" "I", Cond.methodLink RX4 22 yJ7_fill_53178, Cond.static yJ7_fill_53178, Cond.initialized RJ7, Cond.code yJ7_fill_53178 cJ7_fill_53178 4 none, Cond.methodLink RX4 45 yX4_move, Cond.instanceMethod yX4_move, Cond.selects RX4 yX4_move yX4_move, Cond.initialized RX4, Cond.code yX4_move cX4_move 5 none, Cond.methodLink RX4 81 Lib.Math.min.name, Cond.static Lib.Math.min.name, Cond.code Lib.Math.min.name Lib.Math.min.code 2 (some .int), Cond.methodLink RX4 49 yX4_isPaid, Cond.instanceMethod yX4_isPaid, Cond.selects RX4 yX4_isPaid yX4_isPaid]
def wsX4_pass_r2 : List Cond := [Cond.code yX4_isPaid cX4_isPaid 3 (some .boolean), Cond.methodLink RX4 84 yX5_payIn, Cond.instanceMethod yX5_payIn, Cond.selects RX5 yX5_payIn yX5_payIn, Cond.initialized RX5, Cond.code yX5_payIn cX5_payIn 3 (some .int), Cond.fieldLink RX5 11 "HiredEnemy$Pact" "said" "[I", Cond.methodLink RX5 45 yX5_winterPay, Cond.instanceMethod yX5_winterPay, Cond.selects RX5 yX5_winterPay yX5_winterPay, Cond.code yX5_winterPay cX5_winterPay 1 (some .int), Cond.methodLink RX4 53 yX4_shoot, Cond.instanceMethod yX4_shoot, Cond.selects RX4 yX4_shoot yX4_shoot, Cond.code yX4_shoot cX4_shoot 9 none, Cond.fieldLink RX4 33 "HiredEnemy$Plan" "walls" "I", Cond.methodLink RX4 87 yX5_wallDue, Cond.instanceMethod yX5_wallDue, Cond.selects RX5 yX5_wallDue yX5_wallDue, Cond.code yX5_wallDue cX5_wallDue 4 (some .int), Cond.fieldLink RX5 15 "HiredEnemy$Pact" "wallByMonth" "[I", Cond.static yX10_within, Cond.initialized RX10, Cond.code yX10_within cX10_within 3 (some .boolean)]
def wsX4_pass_r3 : List Cond := [Cond.methodLink RX4 90 yX4_weakest, Cond.instanceMethod yX4_weakest, Cond.selects RX4 yX4_weakest yX4_weakest, Cond.code yX4_weakest cX4_weakest 4 (some .int), Cond.methodLink RX4 93 yX4_breach, Cond.instanceMethod yX4_breach, Cond.selects RX4 yX4_breach yX4_breach, Cond.code yX4_breach cX4_breach 4 none, Cond.fieldLink RX4 36 "HiredEnemy$Plan" "strength" "[I", Cond.methodLink RX4 64 yX4_frighten, Cond.instanceMethod yX4_frighten, Cond.selects RX4 yX4_frighten yX4_frighten, Cond.code yX4_frighten cX4_frighten 2 none, Cond.methodLink RX4 60 yX6_fearAt, Cond.instanceMethod yX6_fearAt, Cond.selects RX6 yX6_fearAt yX6_fearAt, Cond.initialized RX6, Cond.code yX6_fearAt cX6_fearAt 2 (some .int), Cond.fieldLink RX6 18 "HiredEnemy$Plan" "fearByNear" "[I", Cond.methodLink RX4 74 yX4_mend, Cond.instanceMethod yX4_mend, Cond.selects RX4 yX4_mend yX4_mend, Cond.code yX4_mend cX4_mend 5 none, Cond.fieldLink RX4 97 "HiredEnemy$Plan" "mended" "[I"]
def wsX4_pass_r4 : List Cond := [Cond.methodLink RX4 78 yX4_desert, Cond.instanceMethod yX4_desert, Cond.selects RX4 yX4_desert yX4_desert, Cond.code yX4_desert cX4_desert 5 none, Cond.methodLink RX4 100 Lib.Math.abs.name, Cond.static Lib.Math.abs.name, Cond.code Lib.Math.abs.name Lib.Math.abs.code 1 (some .int)]
def wsX4_pass : List Cond := .code yX4_pass cX4_pass 3 none :: ((wsX4_pass_r1 ++ (wsX4_pass_r2 ++ (wsX4_pass_r3 ++ wsX4_pass_r4))) ++ wsX40 ++ wsX60 ++ wsX50)
def wsX9_init : List Cond := .code yX9_init cX9_init 1 none :: ([.methodLink RX9 1 objectInit, .instanceMethod objectInit, .code objectInit ⟨#[0xb1]⟩ 1 none])
def wsX5_init : List Cond := .code yX5_init cX5_init 1 none :: ([.arrayClass .int, .fieldLink RX5 11 "HiredEnemy$Pact" "said" "[I", .fieldLink RX5 15 "HiredEnemy$Pact" "wallByMonth" "[I", .instanceMethod yX9_init, .initialized RX9, .code yX9_init cX9_init 1 none, .methodLink RX9 1 objectInit, .instanceMethod objectInit, .code objectInit ⟨#[0xb1]⟩ 1 none] ++ wsX50)
def wsX5_clear : List Cond := .code yX5_clear cX5_clear 2 none :: ([.fieldLink RX5 18 "HiredEnemy$Pact" "walls" "I", .fieldLink RX5 11 "HiredEnemy$Pact" "said" "[I", .fieldLink RX5 15 "HiredEnemy$Pact" "wallByMonth" "[I", .methodLink RX5 22 yJ7_fill_53178, .static yJ7_fill_53178, .initialized RJ7, .code yJ7_fill_53178 cJ7_fill_53178 4 none] ++ wsX50)
def wsX5_propose : List Cond := .code yX5_propose cX5_propose 5 none :: ([.fieldLink RX5 11 "HiredEnemy$Pact" "said" "[I", .methodLink RX5 28 yX5_clear, .instanceMethod yX5_clear, .selects RX5 yX5_clear yX5_clear, .initialized RX5, .code yX5_clear cX5_clear 2 none, .fieldLink RX5 18 "HiredEnemy$Pact" "walls" "I", .fieldLink RX5 15 "HiredEnemy$Pact" "wallByMonth" "[I", .methodLink RX5 22 yJ7_fill_53178, .static yJ7_fill_53178, .initialized RJ7, .code yJ7_fill_53178 cJ7_fill_53178 4 none] ++ wsX50)
def wsX5_words : List Cond := .code yX5_words cX5_words 1 (some (.object "java/lang/String")) :: ([])
def wsX5_mostParts : List Cond := .code yX5_mostParts cX5_mostParts 1 (some .int) :: ([])
def wsX5_isFull : List Cond := .code yX5_isFull cX5_isFull 2 (some .boolean) :: ([])
def wsX5_numbers : List Cond := .code yX5_numbers cX5_numbers 2 (some .int) :: ([])
def wsX5_low : List Cond := .code yX5_low cX5_low 3 (some .int) :: ([])
def wsX5_high : List Cond := .code yX5_high cX5_high 3 (some .int) :: ([.fieldLink RX5 18 "HiredEnemy$Pact" "walls" "I", .fieldLink RX5 34 "HiredEnemy$Pact" "HIGH" "[I", .static yX10_within, .initialized RX10, .code yX10_within cX10_within 3 (some .boolean)] ++ wsX50)
def wsX5_store : List Cond := .code yX5_store cX5_store 3 none :: ([.fieldLink RX5 15 "HiredEnemy$Pact" "wallByMonth" "[I", .fieldLink RX5 11 "HiredEnemy$Pact" "said" "[I", .static yX10_within, .initialized RX10, .code yX10_within cX10_within 3 (some .boolean)] ++ wsX50)
def wsX5_breachesTold : List Cond := .code yX5_breachesTold cX5_breachesTold 6 (some .int) :: ([.fieldLink RX5 15 "HiredEnemy$Pact" "wallByMonth" "[I"] ++ wsX50)
def wsX5_answer : List Cond := .code yX5_answer cX5_answer 2 (some .int) :: ([.fieldLink RX5 11 "HiredEnemy$Pact" "said" "[I", .methodLink RX5 41 yX5_breachesTold, .instanceMethod yX5_breachesTold, .selects RX5 yX5_breachesTold yX5_breachesTold, .initialized RX5, .code yX5_breachesTold cX5_breachesTold 6 (some .int), .fieldLink RX5 15 "HiredEnemy$Pact" "wallByMonth" "[I", .methodLink RX5 45 yX5_winterPay, .instanceMethod yX5_winterPay, .selects RX5 yX5_winterPay yX5_winterPay, .code yX5_winterPay cX5_winterPay 1 (some .int)] ++ wsX50)
def wsX6_clear : List Cond := .code yX6_clear cX6_clear 2 none :: ([.fieldLink RX6 30 "HiredEnemy$Plan" "walls" "I", .fieldLink RX6 15 "HiredEnemy$Plan" "said" "[I", .fieldLink RX6 9 "HiredEnemy$Plan" "UNTOLD" "[I", .fieldLink RX6 18 "HiredEnemy$Plan" "fearByNear" "[I"] ++ wsX60)
def wsX6_init : List Cond := .code yX6_init cX6_init 1 none :: ([.fieldLink RX6 9 "HiredEnemy$Plan" "UNTOLD" "[I", .arrayClass .int, .fieldLink RX6 15 "HiredEnemy$Plan" "said" "[I", .fieldLink RX6 18 "HiredEnemy$Plan" "fearByNear" "[I", .fieldLink RX6 21 "HiredEnemy$Plan" "strength" "[I", .fieldLink RX6 24 "HiredEnemy$Plan" "mended" "[I", .instanceMethod yX9_init, .initialized RX9, .code yX9_init cX9_init 1 none, .methodLink RX9 1 objectInit, .instanceMethod objectInit, .code objectInit ⟨#[0xb1]⟩ 1 none, .methodLink RX6 27 yX6_clear, .instanceMethod yX6_clear, .selects RX6 yX6_clear yX6_clear, .initialized RX6, .code yX6_clear cX6_clear 2 none, .fieldLink RX6 30 "HiredEnemy$Plan" "walls" "I"] ++ wsX60)
def wsX6_words : List Cond := .code yX6_words cX6_words 1 (some (.object "java/lang/String")) :: ([])
def wsX6_mostParts : List Cond := .code yX6_mostParts cX6_mostParts 1 (some .int) :: ([])
def wsX6_isFull : List Cond := .code yX6_isFull cX6_isFull 2 (some .boolean) :: ([.fieldLink RX6 30 "HiredEnemy$Plan" "walls" "I"] ++ wsX60)
def wsX6_numbers : List Cond := .code yX6_numbers cX6_numbers 2 (some .int) :: ([.fieldLink RX6 36 "HiredEnemy$Plan" "NUMBERS" "[I", .static yX10_within, .initialized RX10, .code yX10_within cX10_within 3 (some .boolean)])
def wsX6_low : List Cond := .code yX6_low cX6_low 3 (some .int) :: ([])
def wsX6_high : List Cond := .code yX6_high cX6_high 4 (some .int) :: ([.fieldLink RX6 43 "HiredEnemy$Plan" "HIGH" "[I", .static yX10_within, .initialized RX10, .code yX10_within cX10_within 3 (some .boolean)])
def wsX6_addWall : List Cond := .code yX6_addWall cX6_addWall 3 none :: ([.fieldLink RX6 30 "HiredEnemy$Plan" "walls" "I", .fieldLink RX6 21 "HiredEnemy$Plan" "strength" "[I", .fieldLink RX6 24 "HiredEnemy$Plan" "mended" "[I"] ++ wsX60)
def wsX6_store : List Cond := .code yX6_store cX6_store 4 none :: ([.fieldLink RX6 18 "HiredEnemy$Plan" "fearByNear" "[I", .fieldLink RX6 15 "HiredEnemy$Plan" "said" "[I", .methodLink RX6 46 yX6_addWall, .instanceMethod yX6_addWall, .selects RX6 yX6_addWall yX6_addWall, .initialized RX6, .code yX6_addWall cX6_addWall 3 none, .fieldLink RX6 30 "HiredEnemy$Plan" "walls" "I", .fieldLink RX6 21 "HiredEnemy$Plan" "strength" "[I", .fieldLink RX6 24 "HiredEnemy$Plan" "mended" "[I", .static yX10_within, .initialized RX10, .code yX10_within cX10_within 3 (some .boolean), .methodLink RX6 50 yX6_numbers, .instanceMethod yX6_numbers, .selects RX6 yX6_numbers yX6_numbers, .code yX6_numbers cX6_numbers 2 (some .int), .fieldLink RX6 36 "HiredEnemy$Plan" "NUMBERS" "[I"] ++ wsX60)
def wsX6_wanted : List Cond := .code yX6_wanted cX6_wanted 3 (some .int) :: ([.fieldLink RX6 15 "HiredEnemy$Plan" "said" "[I"] ++ wsX60)
def wsX7_init : List Cond := .code yX7_init cX7_init 1 none :: ([.methodLink RX7 3 objectInit, .instanceMethod objectInit, .code objectInit ⟨#[0xb1]⟩ 1 none, .arrayClass .byte, .fieldLink RX7 9 "HiredEnemy$Reader" "bytes" "[B", .fieldLink RX7 15 "HiredEnemy$Reader" "place" "I", .arrayClass .int, .fieldLink RX7 19 "HiredEnemy$Reader" "numbers" "[I"] ++ wsX70)
def wsX7_skipBlanks : List Cond := .code yX7_skipBlanks cX7_skipBlanks 1 none :: ([.fieldLink RX7 32 "HiredEnemy$Reader" "at" "I", .fieldLink RX7 29 "HiredEnemy$Reader" "length" "I", .fieldLink RX7 9 "HiredEnemy$Reader" "bytes" "[B"] ++ wsX70)
def wsX7_skipLetters : List Cond := .code yX7_skipLetters cX7_skipLetters 1 none :: ([.fieldLink RX7 32 "HiredEnemy$Reader" "at" "I", .fieldLink RX7 29 "HiredEnemy$Reader" "length" "I", .fieldLink RX7 9 "HiredEnemy$Reader" "bytes" "[B"] ++ wsX70)
def wsJ0_coder_7d493 : List Cond := .code yJ0_coder_7d493 cJ0_coder_7d493 1 (some .byte) :: ([.fieldLink RJ0 38 "java/lang/String" "COMPACT_STRINGS" "Z", .fieldLink RJ0 15 "java/lang/String" "coder" "B"])
def wsJ0_length_8abf5 : List Cond := .code yJ0_length_8abf5 cJ0_length_8abf5 1 (some .int) :: ([.fieldLink RJ0 9 "java/lang/String" "value" "[B", .methodLink RJ0 335 yJ0_coder_7d493, .instanceMethod yJ0_coder_7d493, .selects RJ0 yJ0_coder_7d493 yJ0_coder_7d493, .initialized RJ0, .code yJ0_coder_7d493 cJ0_coder_7d493 1 (some .byte), .fieldLink RJ0 38 "java/lang/String" "COMPACT_STRINGS" "Z", .fieldLink RJ0 15 "java/lang/String" "coder" "B"])
def wsJ0_isLatin1_aae02 : List Cond := .code yJ0_isLatin1_aae02 cJ0_isLatin1_aae02 1 (some .boolean) :: ([.fieldLink RJ0 38 "java/lang/String" "COMPACT_STRINGS" "Z", .fieldLink RJ0 15 "java/lang/String" "coder" "B"])
def wsJ3_checkIndex_8e157 : List Cond := .code yJ3_checkIndex_8e157 cJ3_checkIndex_8e157 3 (some .int) :: ([])
def wsJ0_checkIndex_df160 : List Cond := .code yJ0_checkIndex_df160 cJ0_checkIndex_df160 2 none :: ([.fieldLink RJ0 1053 "jdk/internal/util/Preconditions" "SIOOBE_FORMATTER" "Ljava/util/function/BiFunction;", .methodLink RJ0 1059 yJ3_checkIndex_8e157, .static yJ3_checkIndex_8e157, .initialized RJ3, .code yJ3_checkIndex_8e157 cJ3_checkIndex_8e157 3 (some .int)])
def wsJ1_charAt_3b067 : List Cond := .code yJ1_charAt_3b067 cJ1_charAt_3b067 2 (some .char) :: ([.methodLink RJ1 9 yJ0_checkIndex_df160, .static yJ0_checkIndex_df160, .initialized RJ0, .code yJ0_checkIndex_df160 cJ0_checkIndex_df160 2 none, .fieldLink RJ0 1053 "jdk/internal/util/Preconditions" "SIOOBE_FORMATTER" "Ljava/util/function/BiFunction;", .methodLink RJ0 1059 yJ3_checkIndex_8e157, .static yJ3_checkIndex_8e157, .initialized RJ3, .code yJ3_checkIndex_8e157 cJ3_checkIndex_8e157 3 (some .int)])
def wsJ2_length_9d52b : List Cond := .code yJ2_length_9d52b cJ2_length_9d52b 1 (some .int) :: ([])
def wsJ2_checkIndex_2214a : List Cond := .code yJ2_checkIndex_2214a cJ2_checkIndex_2214a 2 none :: ([.methodLink RJ2 48 yJ2_length_9d52b, .static yJ2_length_9d52b, .initialized RJ2, .code yJ2_length_9d52b cJ2_length_9d52b 1 (some .int), .methodLink RJ2 414 yJ0_checkIndex_df160, .static yJ0_checkIndex_df160, .initialized RJ0, .code yJ0_checkIndex_df160 cJ0_checkIndex_df160 2 none, .fieldLink RJ0 1053 "jdk/internal/util/Preconditions" "SIOOBE_FORMATTER" "Ljava/util/function/BiFunction;", .methodLink RJ0 1059 yJ3_checkIndex_8e157, .static yJ3_checkIndex_8e157, .initialized RJ3, .code yJ3_checkIndex_8e157 cJ3_checkIndex_8e157 3 (some .int)])
def wsJ2_getChar_3b067 : List Cond := .code yJ2_getChar_3b067 cJ2_getChar_3b067 2 (some .char) :: ([.fieldLink RJ2 44 "java/lang/StringUTF16" "$assertionsDisabled" "Z", .fieldLink RJ2 59 "java/lang/StringUTF16" "HI_BYTE_SHIFT" "I", .fieldLink RJ2 63 "java/lang/StringUTF16" "LO_BYTE_SHIFT" "I", .methodLink RJ2 48 yJ2_length_9d52b, .static yJ2_length_9d52b, .initialized RJ2, .code yJ2_length_9d52b cJ2_length_9d52b 1 (some .int)])
def wsJ2_charAt_3b067 : List Cond := .code yJ2_charAt_3b067 cJ2_charAt_3b067 2 (some .char) :: ([.methodLink RJ2 67 yJ2_checkIndex_2214a, .static yJ2_checkIndex_2214a, .initialized RJ2, .code yJ2_checkIndex_2214a cJ2_checkIndex_2214a 2 none, .methodLink RJ2 48 yJ2_length_9d52b, .static yJ2_length_9d52b, .code yJ2_length_9d52b cJ2_length_9d52b 1 (some .int), .methodLink RJ2 414 yJ0_checkIndex_df160, .static yJ0_checkIndex_df160, .initialized RJ0, .code yJ0_checkIndex_df160 cJ0_checkIndex_df160 2 none, .fieldLink RJ0 1053 "jdk/internal/util/Preconditions" "SIOOBE_FORMATTER" "Ljava/util/function/BiFunction;", .methodLink RJ0 1059 yJ3_checkIndex_8e157, .static yJ3_checkIndex_8e157, .initialized RJ3, .code yJ3_checkIndex_8e157 cJ3_checkIndex_8e157 3 (some .int), .methodLink RJ2 71 yJ2_getChar_3b067, .static yJ2_getChar_3b067, .code yJ2_getChar_3b067 cJ2_getChar_3b067 2 (some .char), .fieldLink RJ2 44 "java/lang/StringUTF16" "$assertionsDisabled" "Z", .fieldLink RJ2 59 "java/lang/StringUTF16" "HI_BYTE_SHIFT" "I", .fieldLink RJ2 63 "java/lang/StringUTF16" "LO_BYTE_SHIFT" "I"])
def wsJ0_charAt_5068e_r1 : List Cond := [Cond.fieldLink RJ0 9 "java/lang/String" "value" "[B", Cond.methodLink RJ0 492 yJ0_isLatin1_aae02, Cond.instanceMethod yJ0_isLatin1_aae02, Cond.selects RJ0 yJ0_isLatin1_aae02 yJ0_isLatin1_aae02, Cond.initialized RJ0, Cond.code yJ0_isLatin1_aae02 cJ0_isLatin1_aae02 1 (some .boolean), Cond.fieldLink RJ0 38 "java/lang/String" "COMPACT_STRINGS" "Z", Cond.fieldLink RJ0 15 "java/lang/String" "coder" "B", Cond.methodLink RJ0 495 yJ1_charAt_3b067, Cond.static yJ1_charAt_3b067, Cond.initialized RJ1, Cond.code yJ1_charAt_3b067 cJ1_charAt_3b067 2 (some .char), Cond.methodLink RJ1 9 yJ0_checkIndex_df160, Cond.static yJ0_checkIndex_df160, Cond.code yJ0_checkIndex_df160 cJ0_checkIndex_df160 2 none, Cond.fieldLink RJ0 1053 "jdk/internal/util/Preconditions" "SIOOBE_FORMATTER" "Ljava/util/function/BiFunction;", Cond.methodLink RJ0 1059 yJ3_checkIndex_8e157, Cond.static yJ3_checkIndex_8e157, Cond.initialized RJ3, Cond.code yJ3_checkIndex_8e157 cJ3_checkIndex_8e157 3 (some .int), Cond.methodLink RJ0 498 yJ2_charAt_3b067, Cond.static yJ2_charAt_3b067, Cond.initialized RJ2, Cond.code yJ2_charAt_3b067 cJ2_charAt_3b067 2 (some .char)]
def wsJ0_charAt_5068e_r2 : List Cond := [Cond.methodLink RJ2 67 yJ2_checkIndex_2214a, Cond.static yJ2_checkIndex_2214a, Cond.code yJ2_checkIndex_2214a cJ2_checkIndex_2214a 2 none, Cond.methodLink RJ2 48 yJ2_length_9d52b, Cond.static yJ2_length_9d52b, Cond.code yJ2_length_9d52b cJ2_length_9d52b 1 (some .int), Cond.methodLink RJ2 414 yJ0_checkIndex_df160, Cond.methodLink RJ2 71 yJ2_getChar_3b067, Cond.static yJ2_getChar_3b067, Cond.code yJ2_getChar_3b067 cJ2_getChar_3b067 2 (some .char), Cond.fieldLink RJ2 44 "java/lang/StringUTF16" "$assertionsDisabled" "Z", Cond.fieldLink RJ2 59 "java/lang/StringUTF16" "HI_BYTE_SHIFT" "I", Cond.fieldLink RJ2 63 "java/lang/StringUTF16" "LO_BYTE_SHIFT" "I"]
def wsJ0_charAt_5068e : List Cond := .code yJ0_charAt_5068e cJ0_charAt_5068e 2 (some .char) :: ((wsJ0_charAt_5068e_r1 ++ wsJ0_charAt_5068e_r2))
def wsX7_isSame_r1 : List Cond := [Cond.fieldLink RX7 32 "HiredEnemy$Reader" "at" "I", Cond.fieldLink RX7 9 "HiredEnemy$Reader" "bytes" "[B", Cond.methodLink RX7 95 yJ0_charAt_5068e, Cond.instanceMethod yJ0_charAt_5068e, Cond.selects RJ0 yJ0_charAt_5068e yJ0_charAt_5068e, Cond.initialized RJ0, Cond.code yJ0_charAt_5068e cJ0_charAt_5068e 2 (some .char), Cond.fieldLink RJ0 9 "java/lang/String" "value" "[B", Cond.methodLink RJ0 492 yJ0_isLatin1_aae02, Cond.instanceMethod yJ0_isLatin1_aae02, Cond.selects RJ0 yJ0_isLatin1_aae02 yJ0_isLatin1_aae02, Cond.code yJ0_isLatin1_aae02 cJ0_isLatin1_aae02 1 (some .boolean), Cond.fieldLink RJ0 38 "java/lang/String" "COMPACT_STRINGS" "Z", Cond.fieldLink RJ0 15 "java/lang/String" "coder" "B", Cond.methodLink RJ0 495 yJ1_charAt_3b067, Cond.static yJ1_charAt_3b067, Cond.initialized RJ1, Cond.code yJ1_charAt_3b067 cJ1_charAt_3b067 2 (some .char), Cond.methodLink RJ1 9 yJ0_checkIndex_df160, Cond.static yJ0_checkIndex_df160, Cond.code yJ0_checkIndex_df160 cJ0_checkIndex_df160 2 none, Cond.fieldLink RJ0 1053 "jdk/internal/util/Preconditions" "SIOOBE_FORMATTER" "Ljava/util/function/BiFunction;", Cond.methodLink RJ0 1059 yJ3_checkIndex_8e157, Cond.static yJ3_checkIndex_8e157]
def wsX7_isSame_r2 : List Cond := [Cond.initialized RJ3, Cond.code yJ3_checkIndex_8e157 cJ3_checkIndex_8e157 3 (some .int), Cond.methodLink RJ0 498 yJ2_charAt_3b067, Cond.static yJ2_charAt_3b067, Cond.initialized RJ2, Cond.code yJ2_charAt_3b067 cJ2_charAt_3b067 2 (some .char), Cond.methodLink RJ2 67 yJ2_checkIndex_2214a, Cond.static yJ2_checkIndex_2214a, Cond.code yJ2_checkIndex_2214a cJ2_checkIndex_2214a 2 none, Cond.methodLink RJ2 48 yJ2_length_9d52b, Cond.static yJ2_length_9d52b, Cond.code yJ2_length_9d52b cJ2_length_9d52b 1 (some .int), Cond.methodLink RJ2 414 yJ0_checkIndex_df160, Cond.methodLink RJ2 71 yJ2_getChar_3b067, Cond.static yJ2_getChar_3b067, Cond.code yJ2_getChar_3b067 cJ2_getChar_3b067 2 (some .char), Cond.fieldLink RJ2 44 "java/lang/StringUTF16" "$assertionsDisabled" "Z", Cond.fieldLink RJ2 59 "java/lang/StringUTF16" "HI_BYTE_SHIFT" "I", Cond.fieldLink RJ2 63 "java/lang/StringUTF16" "LO_BYTE_SHIFT" "I"]
def wsX7_isSame : List Cond := .code yX7_isSame cX7_isSame 6 (some .boolean) :: ((wsX7_isSame_r1 ++ wsX7_isSame_r2) ++ wsX70)
def wsX7_kindOf_r1 : List Cond := [Cond.methodLink RX7 91 yJ0_length_8abf5, Cond.instanceMethod yJ0_length_8abf5, Cond.selects RJ0 yJ0_length_8abf5 yJ0_length_8abf5, Cond.initialized RJ0, Cond.code yJ0_length_8abf5 cJ0_length_8abf5 1 (some .int), Cond.fieldLink RJ0 9 "java/lang/String" "value" "[B", Cond.methodLink RJ0 335 yJ0_coder_7d493, Cond.instanceMethod yJ0_coder_7d493, Cond.selects RJ0 yJ0_coder_7d493 yJ0_coder_7d493, Cond.code yJ0_coder_7d493 cJ0_coder_7d493 1 (some .byte), Cond.fieldLink RJ0 38 "java/lang/String" "COMPACT_STRINGS" "Z", Cond.fieldLink RJ0 15 "java/lang/String" "coder" "B", Cond.methodLink RX7 95 yJ0_charAt_5068e, Cond.instanceMethod yJ0_charAt_5068e, Cond.selects RJ0 yJ0_charAt_5068e yJ0_charAt_5068e, Cond.code yJ0_charAt_5068e cJ0_charAt_5068e 2 (some .char), Cond.methodLink RJ0 492 yJ0_isLatin1_aae02, Cond.instanceMethod yJ0_isLatin1_aae02, Cond.selects RJ0 yJ0_isLatin1_aae02 yJ0_isLatin1_aae02, Cond.code yJ0_isLatin1_aae02 cJ0_isLatin1_aae02 1 (some .boolean), Cond.methodLink RJ0 495 yJ1_charAt_3b067, Cond.static yJ1_charAt_3b067, Cond.initialized RJ1, Cond.code yJ1_charAt_3b067 cJ1_charAt_3b067 2 (some .char)]
def wsX7_kindOf_r2 : List Cond := [Cond.methodLink RJ1 9 yJ0_checkIndex_df160, Cond.static yJ0_checkIndex_df160, Cond.code yJ0_checkIndex_df160 cJ0_checkIndex_df160 2 none, Cond.fieldLink RJ0 1053 "jdk/internal/util/Preconditions" "SIOOBE_FORMATTER" "Ljava/util/function/BiFunction;", Cond.methodLink RJ0 1059 yJ3_checkIndex_8e157, Cond.static yJ3_checkIndex_8e157, Cond.initialized RJ3, Cond.code yJ3_checkIndex_8e157 cJ3_checkIndex_8e157 3 (some .int), Cond.methodLink RJ0 498 yJ2_charAt_3b067, Cond.static yJ2_charAt_3b067, Cond.initialized RJ2, Cond.code yJ2_charAt_3b067 cJ2_charAt_3b067 2 (some .char), Cond.methodLink RJ2 67 yJ2_checkIndex_2214a, Cond.static yJ2_checkIndex_2214a, Cond.code yJ2_checkIndex_2214a cJ2_checkIndex_2214a 2 none, Cond.methodLink RJ2 48 yJ2_length_9d52b, Cond.static yJ2_length_9d52b, Cond.code yJ2_length_9d52b cJ2_length_9d52b 1 (some .int), Cond.methodLink RJ2 414 yJ0_checkIndex_df160, Cond.methodLink RJ2 71 yJ2_getChar_3b067, Cond.static yJ2_getChar_3b067, Cond.code yJ2_getChar_3b067 cJ2_getChar_3b067 2 (some .char), Cond.fieldLink RJ2 44 "java/lang/StringUTF16" "$assertionsDisabled" "Z", Cond.fieldLink RJ2 59 "java/lang/StringUTF16" "HI_BYTE_SHIFT" "I"]
def wsX7_kindOf_r3 : List Cond := [Cond.fieldLink RJ2 63 "java/lang/StringUTF16" "LO_BYTE_SHIFT" "I", Cond.methodLink RX7 99 yX7_isSame, Cond.instanceMethod yX7_isSame, Cond.selects RX7 yX7_isSame yX7_isSame, Cond.initialized RX7, Cond.code yX7_isSame cX7_isSame 6 (some .boolean), Cond.fieldLink RX7 32 "HiredEnemy$Reader" "at" "I", Cond.fieldLink RX7 9 "HiredEnemy$Reader" "bytes" "[B"]
def wsX7_kindOf : List Cond := .code yX7_kindOf cX7_kindOf 6 (some .int) :: ((wsX7_kindOf_r1 ++ (wsX7_kindOf_r2 ++ wsX7_kindOf_r3)) ++ wsX70)
def wsX7_fail : List Cond := .code yX7_fail cX7_fail 3 (some .boolean) :: ([.fieldLink RX7 35 "HiredEnemy$Reader" "fault" "I", .fieldLink RX7 15 "HiredEnemy$Reader" "place" "I"] ++ wsX70)
def wsX7_readNumber : List Cond := .code yX7_readNumber cX7_readNumber 6 (some .boolean) :: ([.fieldLink RX7 32 "HiredEnemy$Reader" "at" "I", .fieldLink RX7 29 "HiredEnemy$Reader" "length" "I", .fieldLink RX7 9 "HiredEnemy$Reader" "bytes" "[B", .constant RX7 87 (100000), .methodLink RX7 23 Lib.Math.min.name, .static Lib.Math.min.name, .initialized "java/lang/Math", .code Lib.Math.min.name Lib.Math.min.code 2 (some .int), .fieldLink RX7 19 "HiredEnemy$Reader" "numbers" "[I", .methodLink RX7 44 yX7_skipBlanks, .instanceMethod yX7_skipBlanks, .selects RX7 yX7_skipBlanks yX7_skipBlanks, .initialized RX7, .code yX7_skipBlanks cX7_skipBlanks 1 none, .methodLink RX7 62 yX7_fail, .instanceMethod yX7_fail, .selects RX7 yX7_fail yX7_fail, .code yX7_fail cX7_fail 3 (some .boolean), .fieldLink RX7 35 "HiredEnemy$Reader" "fault" "I", .fieldLink RX7 15 "HiredEnemy$Reader" "place" "I", .static yX10_within, .initialized RX10, .code yX10_within cX10_within 3 (some .boolean)] ++ wsX70)
def wsX7_readPart_r1 : List Cond := [Cond.fieldLink RX7 32 "HiredEnemy$Reader" "at" "I", Cond.fieldLink RX7 19 "HiredEnemy$Reader" "numbers" "[I", Cond.methodLink RX7 23 Lib.Math.min.name, Cond.static Lib.Math.min.name, Cond.initialized "java/lang/Math", Cond.code Lib.Math.min.name Lib.Math.min.code 2 (some .int), Cond.fieldLink RX7 29 "HiredEnemy$Reader" "length" "I", Cond.fieldLink RX7 9 "HiredEnemy$Reader" "bytes" "[B", Cond.methodLink RX7 51 yX7_skipLetters, Cond.instanceMethod yX7_skipLetters, Cond.selects RX7 yX7_skipLetters yX7_skipLetters, Cond.initialized RX7, Cond.code yX7_skipLetters cX7_skipLetters 1 none, Cond.methodLink RX7 54 ⟨"HiredEnemy$Telling", "words", "()Ljava/lang/String;"⟩, Cond.sameMethod "HiredEnemy$Telling" "HiredEnemy$Telling" "words" "()Ljava/lang/String;", Cond.selects RX5 ⟨"HiredEnemy$Telling", "words", "()Ljava/lang/String;"⟩ yX5_words, Cond.instanceMethod yX5_words, Cond.initialized RX5, Cond.code yX5_words cX5_words 1 (some (.object "java/lang/String")), Cond.selects RX6 ⟨"HiredEnemy$Telling", "words", "()Ljava/lang/String;"⟩ yX6_words, Cond.instanceMethod yX6_words, Cond.initialized RX6, Cond.code yX6_words cX6_words 1 (some (.object "java/lang/String")), Cond.methodLink RX7 58 yX7_kindOf]
def wsX7_readPart_r2 : List Cond := [Cond.instanceMethod yX7_kindOf, Cond.selects RX7 yX7_kindOf yX7_kindOf, Cond.code yX7_kindOf cX7_kindOf 6 (some .int), Cond.methodLink RX7 91 yJ0_length_8abf5, Cond.instanceMethod yJ0_length_8abf5, Cond.selects RJ0 yJ0_length_8abf5 yJ0_length_8abf5, Cond.initialized RJ0, Cond.code yJ0_length_8abf5 cJ0_length_8abf5 1 (some .int), Cond.fieldLink RJ0 9 "java/lang/String" "value" "[B", Cond.methodLink RJ0 335 yJ0_coder_7d493, Cond.instanceMethod yJ0_coder_7d493, Cond.selects RJ0 yJ0_coder_7d493 yJ0_coder_7d493, Cond.code yJ0_coder_7d493 cJ0_coder_7d493 1 (some .byte), Cond.fieldLink RJ0 38 "java/lang/String" "COMPACT_STRINGS" "Z", Cond.fieldLink RJ0 15 "java/lang/String" "coder" "B", Cond.methodLink RX7 95 yJ0_charAt_5068e, Cond.instanceMethod yJ0_charAt_5068e, Cond.selects RJ0 yJ0_charAt_5068e yJ0_charAt_5068e, Cond.code yJ0_charAt_5068e cJ0_charAt_5068e 2 (some .char), Cond.methodLink RJ0 492 yJ0_isLatin1_aae02, Cond.instanceMethod yJ0_isLatin1_aae02, Cond.selects RJ0 yJ0_isLatin1_aae02 yJ0_isLatin1_aae02, Cond.code yJ0_isLatin1_aae02 cJ0_isLatin1_aae02 1 (some .boolean), Cond.methodLink RJ0 495 yJ1_charAt_3b067]
def wsX7_readPart_r3 : List Cond := [Cond.static yJ1_charAt_3b067, Cond.initialized RJ1, Cond.code yJ1_charAt_3b067 cJ1_charAt_3b067 2 (some .char), Cond.methodLink RJ1 9 yJ0_checkIndex_df160, Cond.static yJ0_checkIndex_df160, Cond.code yJ0_checkIndex_df160 cJ0_checkIndex_df160 2 none, Cond.fieldLink RJ0 1053 "jdk/internal/util/Preconditions" "SIOOBE_FORMATTER" "Ljava/util/function/BiFunction;", Cond.methodLink RJ0 1059 yJ3_checkIndex_8e157, Cond.static yJ3_checkIndex_8e157, Cond.initialized RJ3, Cond.code yJ3_checkIndex_8e157 cJ3_checkIndex_8e157 3 (some .int), Cond.methodLink RJ0 498 yJ2_charAt_3b067, Cond.static yJ2_charAt_3b067, Cond.initialized RJ2, Cond.code yJ2_charAt_3b067 cJ2_charAt_3b067 2 (some .char), Cond.methodLink RJ2 67 yJ2_checkIndex_2214a, Cond.static yJ2_checkIndex_2214a, Cond.code yJ2_checkIndex_2214a cJ2_checkIndex_2214a 2 none, Cond.methodLink RJ2 48 yJ2_length_9d52b, Cond.static yJ2_length_9d52b, Cond.code yJ2_length_9d52b cJ2_length_9d52b 1 (some .int), Cond.methodLink RJ2 414 yJ0_checkIndex_df160, Cond.methodLink RJ2 71 yJ2_getChar_3b067, Cond.static yJ2_getChar_3b067]
def wsX7_readPart_r4 : List Cond := [Cond.code yJ2_getChar_3b067 cJ2_getChar_3b067 2 (some .char), Cond.fieldLink RJ2 44 "java/lang/StringUTF16" "$assertionsDisabled" "Z", Cond.fieldLink RJ2 59 "java/lang/StringUTF16" "HI_BYTE_SHIFT" "I", Cond.fieldLink RJ2 63 "java/lang/StringUTF16" "LO_BYTE_SHIFT" "I", Cond.methodLink RX7 99 yX7_isSame, Cond.instanceMethod yX7_isSame, Cond.selects RX7 yX7_isSame yX7_isSame, Cond.code yX7_isSame cX7_isSame 6 (some .boolean), Cond.methodLink RX7 62 yX7_fail, Cond.instanceMethod yX7_fail, Cond.selects RX7 yX7_fail yX7_fail, Cond.code yX7_fail cX7_fail 3 (some .boolean), Cond.fieldLink RX7 35 "HiredEnemy$Reader" "fault" "I", Cond.fieldLink RX7 15 "HiredEnemy$Reader" "place" "I", Cond.methodLink RX7 38 ⟨"HiredEnemy$Telling", "mostParts", "()I"⟩, Cond.sameMethod "HiredEnemy$Telling" "HiredEnemy$Telling" "mostParts" "()I", Cond.selects RX5 ⟨"HiredEnemy$Telling", "mostParts", "()I"⟩ yX5_mostParts, Cond.instanceMethod yX5_mostParts, Cond.code yX5_mostParts cX5_mostParts 1 (some .int), Cond.selects RX6 ⟨"HiredEnemy$Telling", "mostParts", "()I"⟩ yX6_mostParts, Cond.instanceMethod yX6_mostParts, Cond.code yX6_mostParts cX6_mostParts 1 (some .int), Cond.methodLink RX7 66 ⟨"HiredEnemy$Telling", "isFull", "(I)Z"⟩, Cond.sameMethod "HiredEnemy$Telling" "HiredEnemy$Telling" "isFull" "(I)Z"]
def wsX7_readPart_r5 : List Cond := [Cond.selects RX5 ⟨"HiredEnemy$Telling", "isFull", "(I)Z"⟩ yX5_isFull, Cond.instanceMethod yX5_isFull, Cond.code yX5_isFull cX5_isFull 2 (some .boolean), Cond.selects RX6 ⟨"HiredEnemy$Telling", "isFull", "(I)Z"⟩ yX6_isFull, Cond.instanceMethod yX6_isFull, Cond.code yX6_isFull cX6_isFull 2 (some .boolean), Cond.fieldLink RX6 30 "HiredEnemy$Plan" "walls" "I", Cond.methodLink RX7 70 ⟨"HiredEnemy$Telling", "numbers", "(I)I"⟩, Cond.sameMethod "HiredEnemy$Telling" "HiredEnemy$Telling" "numbers" "(I)I", Cond.selects RX5 ⟨"HiredEnemy$Telling", "numbers", "(I)I"⟩ yX5_numbers, Cond.instanceMethod yX5_numbers, Cond.code yX5_numbers cX5_numbers 2 (some .int), Cond.selects RX6 ⟨"HiredEnemy$Telling", "numbers", "(I)I"⟩ yX6_numbers, Cond.instanceMethod yX6_numbers, Cond.code yX6_numbers cX6_numbers 2 (some .int), Cond.fieldLink RX6 36 "HiredEnemy$Plan" "NUMBERS" "[I", Cond.static yX10_within, Cond.initialized RX10, Cond.code yX10_within cX10_within 3 (some .boolean), Cond.methodLink RX7 73 ⟨"HiredEnemy$Telling", "low", "(II)I"⟩, Cond.sameMethod "HiredEnemy$Telling" "HiredEnemy$Telling" "low" "(II)I", Cond.selects RX5 ⟨"HiredEnemy$Telling", "low", "(II)I"⟩ yX5_low, Cond.instanceMethod yX5_low, Cond.code yX5_low cX5_low 3 (some .int)]
def wsX7_readPart_r6 : List Cond := [Cond.selects RX6 ⟨"HiredEnemy$Telling", "low", "(II)I"⟩ yX6_low, Cond.instanceMethod yX6_low, Cond.code yX6_low cX6_low 3 (some .int), Cond.methodLink RX7 76 ⟨"HiredEnemy$Telling", "high", "(II)I"⟩, Cond.sameMethod "HiredEnemy$Telling" "HiredEnemy$Telling" "high" "(II)I", Cond.selects RX5 ⟨"HiredEnemy$Telling", "high", "(II)I"⟩ yX5_high, Cond.instanceMethod yX5_high, Cond.code yX5_high cX5_high 3 (some .int), Cond.fieldLink RX5 18 "HiredEnemy$Pact" "walls" "I", Cond.fieldLink RX5 34 "HiredEnemy$Pact" "HIGH" "[I", Cond.selects RX6 ⟨"HiredEnemy$Telling", "high", "(II)I"⟩ yX6_high, Cond.instanceMethod yX6_high, Cond.code yX6_high cX6_high 4 (some .int), Cond.fieldLink RX6 43 "HiredEnemy$Plan" "HIGH" "[I", Cond.methodLink RX7 79 yX7_readNumber, Cond.instanceMethod yX7_readNumber, Cond.selects RX7 yX7_readNumber yX7_readNumber, Cond.code yX7_readNumber cX7_readNumber 6 (some .boolean), Cond.constant RX7 87 (100000), Cond.methodLink RX7 44 yX7_skipBlanks, Cond.instanceMethod yX7_skipBlanks, Cond.selects RX7 yX7_skipBlanks yX7_skipBlanks, Cond.code yX7_skipBlanks cX7_skipBlanks 1 none, Cond.methodLink RX7 83 ⟨"HiredEnemy$Telling", "store", "(I[I)V"⟩]
def wsX7_readPart_r7 : List Cond := [Cond.sameMethod "HiredEnemy$Telling" "HiredEnemy$Telling" "store" "(I[I)V", Cond.selects RX5 ⟨"HiredEnemy$Telling", "store", "(I[I)V"⟩ yX5_store, Cond.instanceMethod yX5_store, Cond.code yX5_store cX5_store 3 none, Cond.fieldLink RX5 15 "HiredEnemy$Pact" "wallByMonth" "[I", Cond.fieldLink RX5 11 "HiredEnemy$Pact" "said" "[I", Cond.selects RX6 ⟨"HiredEnemy$Telling", "store", "(I[I)V"⟩ yX6_store, Cond.instanceMethod yX6_store, Cond.code yX6_store cX6_store 4 none, Cond.fieldLink RX6 18 "HiredEnemy$Plan" "fearByNear" "[I", Cond.fieldLink RX6 15 "HiredEnemy$Plan" "said" "[I", Cond.methodLink RX6 46 yX6_addWall, Cond.instanceMethod yX6_addWall, Cond.selects RX6 yX6_addWall yX6_addWall, Cond.code yX6_addWall cX6_addWall 3 none, Cond.fieldLink RX6 21 "HiredEnemy$Plan" "strength" "[I", Cond.fieldLink RX6 24 "HiredEnemy$Plan" "mended" "[I", Cond.methodLink RX6 50 yX6_numbers, Cond.selects RX6 yX6_numbers yX6_numbers]
def wsX7_readPart : List Cond := .code yX7_readPart cX7_readPart 7 (some .boolean) :: ((wsX7_readPart_r1 ++ (wsX7_readPart_r2 ++ (wsX7_readPart_r3 ++ (wsX7_readPart_r4 ++ (wsX7_readPart_r5 ++ (wsX7_readPart_r6 ++ wsX7_readPart_r7)))))) ++ wsX70 ++ wsX60 ++ wsX50)
def wsX7_read_r1 : List Cond := [Cond.fieldLink RX7 9 "HiredEnemy$Reader" "bytes" "[B", Cond.methodLink RX7 23 Lib.Math.min.name, Cond.static Lib.Math.min.name, Cond.initialized "java/lang/Math", Cond.code Lib.Math.min.name Lib.Math.min.code 2 (some .int), Cond.fieldLink RX7 29 "HiredEnemy$Reader" "length" "I", Cond.fieldLink RX7 32 "HiredEnemy$Reader" "at" "I", Cond.fieldLink RX7 35 "HiredEnemy$Reader" "fault" "I", Cond.fieldLink RX7 15 "HiredEnemy$Reader" "place" "I", Cond.methodLink RX7 38 ⟨"HiredEnemy$Telling", "mostParts", "()I"⟩, Cond.sameMethod "HiredEnemy$Telling" "HiredEnemy$Telling" "mostParts" "()I", Cond.selects RX5 ⟨"HiredEnemy$Telling", "mostParts", "()I"⟩ yX5_mostParts, Cond.instanceMethod yX5_mostParts, Cond.initialized RX5, Cond.code yX5_mostParts cX5_mostParts 1 (some .int), Cond.selects RX6 ⟨"HiredEnemy$Telling", "mostParts", "()I"⟩ yX6_mostParts, Cond.instanceMethod yX6_mostParts, Cond.initialized RX6, Cond.code yX6_mostParts cX6_mostParts 1 (some .int), Cond.methodLink RX7 44 yX7_skipBlanks, Cond.instanceMethod yX7_skipBlanks, Cond.selects RX7 yX7_skipBlanks yX7_skipBlanks, Cond.initialized RX7, Cond.code yX7_skipBlanks cX7_skipBlanks 1 none]
def wsX7_read_r2 : List Cond := [Cond.methodLink RX7 47 yX7_readPart, Cond.instanceMethod yX7_readPart, Cond.selects RX7 yX7_readPart yX7_readPart, Cond.code yX7_readPart cX7_readPart 7 (some .boolean), Cond.fieldLink RX7 19 "HiredEnemy$Reader" "numbers" "[I", Cond.methodLink RX7 51 yX7_skipLetters, Cond.instanceMethod yX7_skipLetters, Cond.selects RX7 yX7_skipLetters yX7_skipLetters, Cond.code yX7_skipLetters cX7_skipLetters 1 none, Cond.methodLink RX7 54 ⟨"HiredEnemy$Telling", "words", "()Ljava/lang/String;"⟩, Cond.sameMethod "HiredEnemy$Telling" "HiredEnemy$Telling" "words" "()Ljava/lang/String;", Cond.selects RX5 ⟨"HiredEnemy$Telling", "words", "()Ljava/lang/String;"⟩ yX5_words, Cond.instanceMethod yX5_words, Cond.code yX5_words cX5_words 1 (some (.object "java/lang/String")), Cond.selects RX6 ⟨"HiredEnemy$Telling", "words", "()Ljava/lang/String;"⟩ yX6_words, Cond.instanceMethod yX6_words, Cond.code yX6_words cX6_words 1 (some (.object "java/lang/String")), Cond.methodLink RX7 58 yX7_kindOf, Cond.instanceMethod yX7_kindOf, Cond.selects RX7 yX7_kindOf yX7_kindOf, Cond.code yX7_kindOf cX7_kindOf 6 (some .int), Cond.methodLink RX7 91 yJ0_length_8abf5, Cond.instanceMethod yJ0_length_8abf5, Cond.selects RJ0 yJ0_length_8abf5 yJ0_length_8abf5]
def wsX7_read_r3 : List Cond := [Cond.initialized RJ0, Cond.code yJ0_length_8abf5 cJ0_length_8abf5 1 (some .int), Cond.fieldLink RJ0 9 "java/lang/String" "value" "[B", Cond.methodLink RJ0 335 yJ0_coder_7d493, Cond.instanceMethod yJ0_coder_7d493, Cond.selects RJ0 yJ0_coder_7d493 yJ0_coder_7d493, Cond.code yJ0_coder_7d493 cJ0_coder_7d493 1 (some .byte), Cond.fieldLink RJ0 38 "java/lang/String" "COMPACT_STRINGS" "Z", Cond.fieldLink RJ0 15 "java/lang/String" "coder" "B", Cond.methodLink RX7 95 yJ0_charAt_5068e, Cond.instanceMethod yJ0_charAt_5068e, Cond.selects RJ0 yJ0_charAt_5068e yJ0_charAt_5068e, Cond.code yJ0_charAt_5068e cJ0_charAt_5068e 2 (some .char), Cond.methodLink RJ0 492 yJ0_isLatin1_aae02, Cond.instanceMethod yJ0_isLatin1_aae02, Cond.selects RJ0 yJ0_isLatin1_aae02 yJ0_isLatin1_aae02, Cond.code yJ0_isLatin1_aae02 cJ0_isLatin1_aae02 1 (some .boolean), Cond.methodLink RJ0 495 yJ1_charAt_3b067, Cond.static yJ1_charAt_3b067, Cond.initialized RJ1, Cond.code yJ1_charAt_3b067 cJ1_charAt_3b067 2 (some .char), Cond.methodLink RJ1 9 yJ0_checkIndex_df160, Cond.static yJ0_checkIndex_df160, Cond.code yJ0_checkIndex_df160 cJ0_checkIndex_df160 2 none]
def wsX7_read_r4 : List Cond := [Cond.fieldLink RJ0 1053 "jdk/internal/util/Preconditions" "SIOOBE_FORMATTER" "Ljava/util/function/BiFunction;", Cond.methodLink RJ0 1059 yJ3_checkIndex_8e157, Cond.static yJ3_checkIndex_8e157, Cond.initialized RJ3, Cond.code yJ3_checkIndex_8e157 cJ3_checkIndex_8e157 3 (some .int), Cond.methodLink RJ0 498 yJ2_charAt_3b067, Cond.static yJ2_charAt_3b067, Cond.initialized RJ2, Cond.code yJ2_charAt_3b067 cJ2_charAt_3b067 2 (some .char), Cond.methodLink RJ2 67 yJ2_checkIndex_2214a, Cond.static yJ2_checkIndex_2214a, Cond.code yJ2_checkIndex_2214a cJ2_checkIndex_2214a 2 none, Cond.methodLink RJ2 48 yJ2_length_9d52b, Cond.static yJ2_length_9d52b, Cond.code yJ2_length_9d52b cJ2_length_9d52b 1 (some .int), Cond.methodLink RJ2 414 yJ0_checkIndex_df160, Cond.methodLink RJ2 71 yJ2_getChar_3b067, Cond.static yJ2_getChar_3b067, Cond.code yJ2_getChar_3b067 cJ2_getChar_3b067 2 (some .char), Cond.fieldLink RJ2 44 "java/lang/StringUTF16" "$assertionsDisabled" "Z", Cond.fieldLink RJ2 59 "java/lang/StringUTF16" "HI_BYTE_SHIFT" "I", Cond.fieldLink RJ2 63 "java/lang/StringUTF16" "LO_BYTE_SHIFT" "I", Cond.methodLink RX7 99 yX7_isSame, Cond.instanceMethod yX7_isSame]
def wsX7_read_r5 : List Cond := [Cond.selects RX7 yX7_isSame yX7_isSame, Cond.code yX7_isSame cX7_isSame 6 (some .boolean), Cond.methodLink RX7 62 yX7_fail, Cond.instanceMethod yX7_fail, Cond.selects RX7 yX7_fail yX7_fail, Cond.code yX7_fail cX7_fail 3 (some .boolean), Cond.methodLink RX7 66 ⟨"HiredEnemy$Telling", "isFull", "(I)Z"⟩, Cond.sameMethod "HiredEnemy$Telling" "HiredEnemy$Telling" "isFull" "(I)Z", Cond.selects RX5 ⟨"HiredEnemy$Telling", "isFull", "(I)Z"⟩ yX5_isFull, Cond.instanceMethod yX5_isFull, Cond.code yX5_isFull cX5_isFull 2 (some .boolean), Cond.selects RX6 ⟨"HiredEnemy$Telling", "isFull", "(I)Z"⟩ yX6_isFull, Cond.instanceMethod yX6_isFull, Cond.code yX6_isFull cX6_isFull 2 (some .boolean), Cond.fieldLink RX6 30 "HiredEnemy$Plan" "walls" "I", Cond.methodLink RX7 70 ⟨"HiredEnemy$Telling", "numbers", "(I)I"⟩, Cond.sameMethod "HiredEnemy$Telling" "HiredEnemy$Telling" "numbers" "(I)I", Cond.selects RX5 ⟨"HiredEnemy$Telling", "numbers", "(I)I"⟩ yX5_numbers, Cond.instanceMethod yX5_numbers, Cond.code yX5_numbers cX5_numbers 2 (some .int), Cond.selects RX6 ⟨"HiredEnemy$Telling", "numbers", "(I)I"⟩ yX6_numbers, Cond.instanceMethod yX6_numbers, Cond.code yX6_numbers cX6_numbers 2 (some .int), Cond.fieldLink RX6 36 "HiredEnemy$Plan" "NUMBERS" "[I"]
def wsX7_read_r6 : List Cond := [Cond.static yX10_within, Cond.initialized RX10, Cond.code yX10_within cX10_within 3 (some .boolean), Cond.methodLink RX7 73 ⟨"HiredEnemy$Telling", "low", "(II)I"⟩, Cond.sameMethod "HiredEnemy$Telling" "HiredEnemy$Telling" "low" "(II)I", Cond.selects RX5 ⟨"HiredEnemy$Telling", "low", "(II)I"⟩ yX5_low, Cond.instanceMethod yX5_low, Cond.code yX5_low cX5_low 3 (some .int), Cond.selects RX6 ⟨"HiredEnemy$Telling", "low", "(II)I"⟩ yX6_low, Cond.instanceMethod yX6_low, Cond.code yX6_low cX6_low 3 (some .int), Cond.methodLink RX7 76 ⟨"HiredEnemy$Telling", "high", "(II)I"⟩, Cond.sameMethod "HiredEnemy$Telling" "HiredEnemy$Telling" "high" "(II)I", Cond.selects RX5 ⟨"HiredEnemy$Telling", "high", "(II)I"⟩ yX5_high, Cond.instanceMethod yX5_high, Cond.code yX5_high cX5_high 3 (some .int), Cond.fieldLink RX5 18 "HiredEnemy$Pact" "walls" "I", Cond.fieldLink RX5 34 "HiredEnemy$Pact" "HIGH" "[I", Cond.selects RX6 ⟨"HiredEnemy$Telling", "high", "(II)I"⟩ yX6_high, Cond.instanceMethod yX6_high, Cond.code yX6_high cX6_high 4 (some .int), Cond.fieldLink RX6 43 "HiredEnemy$Plan" "HIGH" "[I", Cond.methodLink RX7 79 yX7_readNumber, Cond.instanceMethod yX7_readNumber]
def wsX7_read_r7 : List Cond := [Cond.selects RX7 yX7_readNumber yX7_readNumber, Cond.code yX7_readNumber cX7_readNumber 6 (some .boolean), Cond.constant RX7 87 (100000), Cond.methodLink RX7 83 ⟨"HiredEnemy$Telling", "store", "(I[I)V"⟩, Cond.sameMethod "HiredEnemy$Telling" "HiredEnemy$Telling" "store" "(I[I)V", Cond.selects RX5 ⟨"HiredEnemy$Telling", "store", "(I[I)V"⟩ yX5_store, Cond.instanceMethod yX5_store, Cond.code yX5_store cX5_store 3 none, Cond.fieldLink RX5 15 "HiredEnemy$Pact" "wallByMonth" "[I", Cond.fieldLink RX5 11 "HiredEnemy$Pact" "said" "[I", Cond.selects RX6 ⟨"HiredEnemy$Telling", "store", "(I[I)V"⟩ yX6_store, Cond.instanceMethod yX6_store, Cond.code yX6_store cX6_store 4 none, Cond.fieldLink RX6 18 "HiredEnemy$Plan" "fearByNear" "[I", Cond.fieldLink RX6 15 "HiredEnemy$Plan" "said" "[I", Cond.methodLink RX6 46 yX6_addWall, Cond.instanceMethod yX6_addWall, Cond.selects RX6 yX6_addWall yX6_addWall, Cond.code yX6_addWall cX6_addWall 3 none, Cond.fieldLink RX6 21 "HiredEnemy$Plan" "strength" "[I", Cond.fieldLink RX6 24 "HiredEnemy$Plan" "mended" "[I", Cond.methodLink RX6 50 yX6_numbers, Cond.selects RX6 yX6_numbers yX6_numbers]
def wsX7_read : List Cond := .code yX7_read cX7_read 5 (some .int) :: ((wsX7_read_r1 ++ (wsX7_read_r2 ++ (wsX7_read_r3 ++ (wsX7_read_r4 ++ (wsX7_read_r5 ++ (wsX7_read_r6 ++ wsX7_read_r7)))))) ++ wsX70 ++ wsX60 ++ wsX50)
def wsX8_init_r1 : List Cond := [Cond.methodLink RX8 1 objectInit, Cond.instanceMethod objectInit, Cond.code objectInit ⟨#[0xb1]⟩ 1 none, Cond.classLink RX8 7 RX4, Cond.instantiable RX4 3, Cond.initialized RX4, Cond.fieldLink RX8 10 "HiredEnemy$Scene" "course" "LHiredEnemy$Course;", Cond.classLink RX8 16 RX0, Cond.instantiable RX0 1, Cond.initialized RX0, Cond.fieldLink RX8 19 "HiredEnemy$Scene" "annals" "LHiredEnemy$Annals;", Cond.classLink RX8 23 RX2, Cond.instantiable RX2 7, Cond.initialized RX2, Cond.fieldLink RX8 26 "HiredEnemy$Scene" "belief" "LHiredEnemy$Belief;", Cond.classLink RX8 30 RX3, Cond.instantiable RX3 2, Cond.initialized RX3, Cond.fieldLink RX8 33 "HiredEnemy$Scene" "bids" "LHiredEnemy$Bids;", Cond.instanceMethod yX4_init, Cond.code yX4_init cX4_init 1 none, Cond.methodLink RX4 3 objectInit, Cond.arrayClass .int, Cond.fieldLink RX4 9 "HiredEnemy$Course" "now" "[I"]
def wsX8_init_r2 : List Cond := [Cond.fieldLink RX4 15 "HiredEnemy$Course" "shot" "[I", Cond.instanceMethod yX0_init, Cond.code yX0_init cX0_init 1 none, Cond.methodLink RX0 3 objectInit, Cond.fieldLink RX0 11 "HiredEnemy$Annals" "lines" "[I", Cond.instanceMethod yX2_init, Cond.code yX2_init cX2_init 1 none, Cond.methodLink RX2 1 objectInit, Cond.fieldLink RX2 7 "HiredEnemy$Belief" "ifReal" "[I", Cond.fieldLink RX2 13 "HiredEnemy$Belief" "ifHired" "[I", Cond.fieldLink RX2 16 "HiredEnemy$Belief" "firstReal" "I", Cond.fieldLink RX2 20 "HiredEnemy$Belief" "firstHired" "I", Cond.fieldLink RX2 23 "HiredEnemy$Belief" "real" "J", Cond.fieldLink RX2 27 "HiredEnemy$Belief" "hired" "J", Cond.instanceMethod yX3_init, Cond.code yX3_init cX3_init 1 none, Cond.methodLink RX3 1 objectInit, Cond.fieldLink RX3 9 "HiredEnemy$Bids" "coins" "[I", Cond.fieldLink RX3 13 "HiredEnemy$Bids" "rest" "[I"]
def wsX8_init : List Cond := .code yX8_init cX8_init 1 none :: ((wsX8_init_r1 ++ wsX8_init_r2) ++ wsX40 ++ wsX80 ++ wsX00 ++ wsX20 ++ wsX30)
def wsX8_begin_r1 : List Cond := [Cond.fieldLink RX8 10 "HiredEnemy$Scene" "course" "LHiredEnemy$Course;", Cond.fieldLink RX8 26 "HiredEnemy$Scene" "belief" "LHiredEnemy$Belief;", Cond.fieldLink RX8 33 "HiredEnemy$Scene" "bids" "LHiredEnemy$Bids;", Cond.methodLink RX8 37 yX4_begin, Cond.instanceMethod yX4_begin, Cond.selects RX4 yX4_begin yX4_begin, Cond.initialized RX4, Cond.code yX4_begin cX4_begin 3 none, Cond.fieldLink RX4 18 "HiredEnemy$Course" "month" "I", Cond.fieldLink RX4 9 "HiredEnemy$Course" "now" "[I", Cond.fieldLink RX4 28 "HiredEnemy$Plan" "said" "[I", Cond.fieldLink RX4 33 "HiredEnemy$Plan" "walls" "I", Cond.fieldLink RX4 36 "HiredEnemy$Plan" "strength" "[I", Cond.methodLink RX4 22 yJ7_fill_53178, Cond.static yJ7_fill_53178, Cond.initialized RJ7, Cond.code yJ7_fill_53178 cJ7_fill_53178 4 none, Cond.methodLink RX8 41 yX2_forget, Cond.instanceMethod yX2_forget, Cond.selects RX2 yX2_forget yX2_forget, Cond.initialized RX2, Cond.code yX2_forget cX2_forget 1 none, Cond.fieldLink RX2 16 "HiredEnemy$Belief" "firstReal" "I", Cond.fieldLink RX2 23 "HiredEnemy$Belief" "real" "J"]
def wsX8_begin_r2 : List Cond := [Cond.fieldLink RX2 20 "HiredEnemy$Belief" "firstHired" "I", Cond.fieldLink RX2 27 "HiredEnemy$Belief" "hired" "J", Cond.fieldLink RX2 33 "HiredEnemy$Belief" "things" "I", Cond.methodLink RX8 44 yX3_clear, Cond.instanceMethod yX3_clear, Cond.selects RX3 yX3_clear yX3_clear, Cond.initialized RX3, Cond.code yX3_clear cX3_clear 1 none, Cond.fieldLink RX3 9 "HiredEnemy$Bids" "coins" "[I", Cond.methodLink RX3 16 yJ7_fill_53178]
def wsX8_begin : List Cond := .code yX8_begin cX8_begin 2 none :: ((wsX8_begin_r1 ++ wsX8_begin_r2) ++ wsX80 ++ wsX40 ++ wsX60 ++ wsX20 ++ wsX30)
def wsX8_take_r1 : List Cond := [Cond.fieldLink RX8 10 "HiredEnemy$Scene" "course" "LHiredEnemy$Course;", Cond.fieldLink RX8 19 "HiredEnemy$Scene" "annals" "LHiredEnemy$Annals;", Cond.fieldLink RX8 51 "HiredEnemy$Course" "month" "I", Cond.fieldLink RX8 26 "HiredEnemy$Scene" "belief" "LHiredEnemy$Belief;", Cond.fieldLink RX8 33 "HiredEnemy$Scene" "bids" "LHiredEnemy$Bids;", Cond.methodLink RX8 47 yX4_take, Cond.instanceMethod yX4_take, Cond.selects RX4 yX4_take yX4_take, Cond.initialized RX4, Cond.code yX4_take cX4_take 2 none, Cond.fieldLink RX4 9 "HiredEnemy$Course" "now" "[I", Cond.methodLink RX4 39 arraycopyName, Cond.native arraycopyName, Cond.static arraycopyName, Cond.initialized "java/lang/System", Cond.fieldLink RX4 18 "HiredEnemy$Course" "month" "I", Cond.methodLink RX8 55 yX0_take, Cond.instanceMethod yX0_take, Cond.selects RX0 yX0_take yX0_take, Cond.initialized RX0, Cond.code yX0_take cX0_take 3 none, Cond.fieldLink RX0 11 "HiredEnemy$Annals" "lines" "[I", Cond.methodLink RX0 28 arraycopyName, Cond.static yX10_within]
def wsX8_take_r2 : List Cond := [Cond.initialized RX10, Cond.code yX10_within cX10_within 3 (some .boolean), Cond.methodLink RX8 58 yX2_take, Cond.instanceMethod yX2_take, Cond.selects RX2 yX2_take yX2_take, Cond.initialized RX2, Cond.code yX2_take cX2_take 2 none, Cond.fieldLink RX2 7 "HiredEnemy$Belief" "ifReal" "[I", Cond.methodLink RX2 36 arraycopyName, Cond.fieldLink RX2 13 "HiredEnemy$Belief" "ifHired" "[I", Cond.fieldLink RX2 16 "HiredEnemy$Belief" "firstReal" "I", Cond.fieldLink RX2 20 "HiredEnemy$Belief" "firstHired" "I", Cond.fieldLink RX2 23 "HiredEnemy$Belief" "real" "J", Cond.fieldLink RX2 27 "HiredEnemy$Belief" "hired" "J", Cond.fieldLink RX2 33 "HiredEnemy$Belief" "things" "I", Cond.methodLink RX8 61 yX3_take, Cond.instanceMethod yX3_take, Cond.selects RX3 yX3_take yX3_take, Cond.initialized RX3, Cond.code yX3_take cX3_take 2 none, Cond.fieldLink RX3 9 "HiredEnemy$Bids" "coins" "[I", Cond.methodLink RX3 45 arraycopyName]
def wsX8_take : List Cond := .code yX8_take cX8_take 2 none :: ((wsX8_take_r1 ++ wsX8_take_r2) ++ wsX80 ++ wsX40 ++ wsX00 ++ wsX20 ++ wsX30)
def wsX10_init_r1 : List Cond := [Cond.methodLink RX10 3 objectInit, Cond.instanceMethod objectInit, Cond.code objectInit ⟨#[0xb1]⟩ 1 none, Cond.arrayClass .byte, Cond.fieldLink RX10 9 "HiredEnemy" "tape" "[B", Cond.classLink RX10 13 RX7, Cond.instantiable RX7 6, Cond.initialized RX7, Cond.fieldLink RX10 16 "HiredEnemy" "reader" "LHiredEnemy$Reader;", Cond.classLink RX10 20 RX6, Cond.instantiable RX6 5, Cond.initialized RX6, Cond.fieldLink RX10 23 "HiredEnemy" "plan" "LHiredEnemy$Plan;", Cond.fieldLink RX10 27 "HiredEnemy" "draft" "LHiredEnemy$Plan;", Cond.classLink RX10 30 RX5, Cond.fieldLink RX10 32 "HiredEnemy" "pacts" "[LHiredEnemy$Pact;", Cond.classLink RX10 36 RX8, Cond.instantiable RX8 4, Cond.initialized RX8, Cond.fieldLink RX10 39 "HiredEnemy" "scene" "LHiredEnemy$Scene;", Cond.fieldLink RX10 43 "HiredEnemy" "images" "[LHiredEnemy$Scene;", Cond.classLink RX10 47 RX4, Cond.instantiable RX4 3, Cond.initialized RX4]
def wsX10_init_r2 : List Cond := [Cond.fieldLink RX10 50 "HiredEnemy" "trial" "LHiredEnemy$Course;", Cond.classLink RX10 54 RX1, Cond.instantiable RX1 5, Cond.initialized RX1, Cond.fieldLink RX10 57 "HiredEnemy" "battle" "LHiredEnemy$Battle;", Cond.arrayClass .int, Cond.fieldLink RX10 61 "HiredEnemy" "refused" "[I", Cond.instantiable RX5 3, Cond.initialized RX5, Cond.fieldLink RX10 66 "HiredEnemy$Scene" "course" "LHiredEnemy$Course;", Cond.instanceMethod yX7_init, Cond.code yX7_init cX7_init 1 none, Cond.methodLink RX7 3 objectInit, Cond.fieldLink RX7 9 "HiredEnemy$Reader" "bytes" "[B", Cond.fieldLink RX7 15 "HiredEnemy$Reader" "place" "I", Cond.fieldLink RX7 19 "HiredEnemy$Reader" "numbers" "[I", Cond.methodLink RX10 22 yX6_init, Cond.instanceMethod yX6_init, Cond.code yX6_init cX6_init 1 none, Cond.fieldLink RX6 9 "HiredEnemy$Plan" "UNTOLD" "[I", Cond.fieldLink RX6 15 "HiredEnemy$Plan" "said" "[I", Cond.fieldLink RX6 18 "HiredEnemy$Plan" "fearByNear" "[I", Cond.fieldLink RX6 21 "HiredEnemy$Plan" "strength" "[I", Cond.fieldLink RX6 24 "HiredEnemy$Plan" "mended" "[I"]
def wsX10_init_r3 : List Cond := [Cond.instanceMethod yX9_init, Cond.initialized RX9, Cond.code yX9_init cX9_init 1 none, Cond.methodLink RX9 1 objectInit, Cond.methodLink RX6 27 yX6_clear, Cond.instanceMethod yX6_clear, Cond.selects RX6 yX6_clear yX6_clear, Cond.code yX6_clear cX6_clear 2 none, Cond.fieldLink RX6 30 "HiredEnemy$Plan" "walls" "I", Cond.instanceMethod yX8_init, Cond.code yX8_init cX8_init 1 none, Cond.methodLink RX8 1 objectInit, Cond.classLink RX8 7 RX4, Cond.fieldLink RX8 10 "HiredEnemy$Scene" "course" "LHiredEnemy$Course;", Cond.classLink RX8 16 RX0, Cond.instantiable RX0 1, Cond.initialized RX0, Cond.fieldLink RX8 19 "HiredEnemy$Scene" "annals" "LHiredEnemy$Annals;", Cond.classLink RX8 23 RX2, Cond.instantiable RX2 7, Cond.initialized RX2, Cond.fieldLink RX8 26 "HiredEnemy$Scene" "belief" "LHiredEnemy$Belief;", Cond.classLink RX8 30 RX3, Cond.instantiable RX3 2]
def wsX10_init_r4 : List Cond := [Cond.initialized RX3, Cond.fieldLink RX8 33 "HiredEnemy$Scene" "bids" "LHiredEnemy$Bids;", Cond.instanceMethod yX4_init, Cond.code yX4_init cX4_init 1 none, Cond.methodLink RX4 3 objectInit, Cond.fieldLink RX4 9 "HiredEnemy$Course" "now" "[I", Cond.fieldLink RX4 15 "HiredEnemy$Course" "shot" "[I", Cond.instanceMethod yX0_init, Cond.code yX0_init cX0_init 1 none, Cond.methodLink RX0 3 objectInit, Cond.fieldLink RX0 11 "HiredEnemy$Annals" "lines" "[I", Cond.instanceMethod yX2_init, Cond.code yX2_init cX2_init 1 none, Cond.methodLink RX2 1 objectInit, Cond.fieldLink RX2 7 "HiredEnemy$Belief" "ifReal" "[I", Cond.fieldLink RX2 13 "HiredEnemy$Belief" "ifHired" "[I", Cond.fieldLink RX2 16 "HiredEnemy$Belief" "firstReal" "I", Cond.fieldLink RX2 20 "HiredEnemy$Belief" "firstHired" "I", Cond.fieldLink RX2 23 "HiredEnemy$Belief" "real" "J", Cond.fieldLink RX2 27 "HiredEnemy$Belief" "hired" "J", Cond.instanceMethod yX3_init, Cond.code yX3_init cX3_init 1 none, Cond.methodLink RX3 1 objectInit, Cond.fieldLink RX3 9 "HiredEnemy$Bids" "coins" "[I"]
def wsX10_init_r5 : List Cond := [Cond.fieldLink RX3 13 "HiredEnemy$Bids" "rest" "[I", Cond.instanceMethod yX1_init, Cond.code yX1_init cX1_init 1 none, Cond.methodLink RX1 5 objectInit, Cond.fieldLink RX1 11 "HiredEnemy$Battle" "worth" "[I", Cond.fieldLink RX1 15 "HiredEnemy$Battle" "held" "[I", Cond.fieldLink RX1 18 "HiredEnemy$Battle" "put" "[I", Cond.instanceMethod yX5_init, Cond.code yX5_init cX5_init 1 none, Cond.fieldLink RX5 11 "HiredEnemy$Pact" "said" "[I", Cond.fieldLink RX5 15 "HiredEnemy$Pact" "wallByMonth" "[I", Cond.methodLink RX10 69 yX4_begin, Cond.instanceMethod yX4_begin, Cond.selects RX4 yX4_begin yX4_begin, Cond.code yX4_begin cX4_begin 3 none, Cond.fieldLink RX4 18 "HiredEnemy$Course" "month" "I", Cond.fieldLink RX4 28 "HiredEnemy$Plan" "said" "[I", Cond.fieldLink RX4 33 "HiredEnemy$Plan" "walls" "I", Cond.fieldLink RX4 36 "HiredEnemy$Plan" "strength" "[I", Cond.methodLink RX4 22 yJ7_fill_53178, Cond.static yJ7_fill_53178, Cond.initialized RJ7, Cond.code yJ7_fill_53178 cJ7_fill_53178 4 none]
def wsX10_init : List Cond := .code yX10_init cX10_init 2 none :: ((wsX10_init_r1 ++ (wsX10_init_r2 ++ (wsX10_init_r3 ++ (wsX10_init_r4 ++ wsX10_init_r5)))) ++ wsX100 ++ wsX70 ++ wsX60 ++ wsX80 ++ wsX40 ++ wsX10 ++ wsX50 ++ wsX00 ++ wsX20 ++ wsX30)
def wsX10_putOnTape : List Cond := .code yX10_putOnTape cX10_putOnTape 3 none :: ([.fieldLink RX10 73 "HiredEnemy" "taped" "I", .fieldLink RX10 9 "HiredEnemy" "tape" "[B"] ++ wsX100)
def wsX10_feed : List Cond := .code yX10_feed cX10_feed 6 (some .int) :: ([.fieldLink RX10 73 "HiredEnemy" "taped" "I", .methodLink RX10 77 yX10_putOnTape, .instanceMethod yX10_putOnTape, .selects RX10 yX10_putOnTape yX10_putOnTape, .initialized RX10, .code yX10_putOnTape cX10_putOnTape 3 none, .fieldLink RX10 9 "HiredEnemy" "tape" "[B"] ++ wsX100)
def wsX10_demand : List Cond := .code yX10_demand cX10_demand 2 none :: ([.classLink RX10 251 "java/lang/IllegalArgumentException", .initialized "java/lang/IllegalArgumentException", .fieldLink RX10 61 "HiredEnemy" "refused" "[I"] ++ wsX100 ++ (vx_atS RX10 255 "java/lang/IllegalArgumentException" ["java/lang/RuntimeException", "java/lang/Exception"]).filter goodWord)
def wsX10_siege_r1 : List Cond := [Cond.fieldLink RX10 73 "HiredEnemy" "taped" "I", Cond.fieldLink RX10 27 "HiredEnemy" "draft" "LHiredEnemy$Plan;", Cond.fieldLink RX10 16 "HiredEnemy" "reader" "LHiredEnemy$Reader;", Cond.fieldLink RX10 9 "HiredEnemy" "tape" "[B", Cond.fieldLink RX10 23 "HiredEnemy" "plan" "LHiredEnemy$Plan;", Cond.fieldLink RX10 92 "HiredEnemy" "pactsTold" "I", Cond.fieldLink RX10 95 "HiredEnemy" "imagesKept" "I", Cond.fieldLink RX10 39 "HiredEnemy" "scene" "LHiredEnemy$Scene;", Cond.fieldLink RX10 99 "HiredEnemy$Plan" "walls" "I", Cond.methodLink RX10 81 yX10_demand, Cond.instanceMethod yX10_demand, Cond.selects RX10 yX10_demand yX10_demand, Cond.initialized RX10, Cond.code yX10_demand cX10_demand 2 none, Cond.classLink RX10 251 "java/lang/IllegalArgumentException", Cond.initialized "java/lang/IllegalArgumentException", Cond.fieldLink RX10 61 "HiredEnemy" "refused" "[I", Cond.methodLink RX10 85 yX6_clear, Cond.instanceMethod yX6_clear, Cond.selects RX6 yX6_clear yX6_clear, Cond.initialized RX6, Cond.code yX6_clear cX6_clear 2 none, Cond.fieldLink RX6 30 "HiredEnemy$Plan" "walls" "I", Cond.fieldLink RX6 15 "HiredEnemy$Plan" "said" "[I"]
def wsX10_siege_r2 : List Cond := [Cond.fieldLink RX6 9 "HiredEnemy$Plan" "UNTOLD" "[I", Cond.fieldLink RX6 18 "HiredEnemy$Plan" "fearByNear" "[I", Cond.methodLink RX10 88 yX7_read, Cond.instanceMethod yX7_read, Cond.selects RX7 yX7_read yX7_read, Cond.initialized RX7, Cond.code yX7_read cX7_read 5 (some .int), Cond.fieldLink RX7 9 "HiredEnemy$Reader" "bytes" "[B", Cond.methodLink RX7 23 Lib.Math.min.name, Cond.static Lib.Math.min.name, Cond.initialized "java/lang/Math", Cond.code Lib.Math.min.name Lib.Math.min.code 2 (some .int), Cond.fieldLink RX7 29 "HiredEnemy$Reader" "length" "I", Cond.fieldLink RX7 32 "HiredEnemy$Reader" "at" "I", Cond.fieldLink RX7 35 "HiredEnemy$Reader" "fault" "I", Cond.fieldLink RX7 15 "HiredEnemy$Reader" "place" "I", Cond.methodLink RX7 38 ⟨"HiredEnemy$Telling", "mostParts", "()I"⟩, Cond.sameMethod "HiredEnemy$Telling" "HiredEnemy$Telling" "mostParts" "()I", Cond.selects RX5 ⟨"HiredEnemy$Telling", "mostParts", "()I"⟩ yX5_mostParts, Cond.instanceMethod yX5_mostParts, Cond.initialized RX5, Cond.code yX5_mostParts cX5_mostParts 1 (some .int), Cond.selects RX6 ⟨"HiredEnemy$Telling", "mostParts", "()I"⟩ yX6_mostParts, Cond.instanceMethod yX6_mostParts]
def wsX10_siege_r3 : List Cond := [Cond.code yX6_mostParts cX6_mostParts 1 (some .int), Cond.methodLink RX7 44 yX7_skipBlanks, Cond.instanceMethod yX7_skipBlanks, Cond.selects RX7 yX7_skipBlanks yX7_skipBlanks, Cond.code yX7_skipBlanks cX7_skipBlanks 1 none, Cond.methodLink RX7 47 yX7_readPart, Cond.instanceMethod yX7_readPart, Cond.selects RX7 yX7_readPart yX7_readPart, Cond.code yX7_readPart cX7_readPart 7 (some .boolean), Cond.fieldLink RX7 19 "HiredEnemy$Reader" "numbers" "[I", Cond.methodLink RX7 51 yX7_skipLetters, Cond.instanceMethod yX7_skipLetters, Cond.selects RX7 yX7_skipLetters yX7_skipLetters, Cond.code yX7_skipLetters cX7_skipLetters 1 none, Cond.methodLink RX7 54 ⟨"HiredEnemy$Telling", "words", "()Ljava/lang/String;"⟩, Cond.sameMethod "HiredEnemy$Telling" "HiredEnemy$Telling" "words" "()Ljava/lang/String;", Cond.selects RX5 ⟨"HiredEnemy$Telling", "words", "()Ljava/lang/String;"⟩ yX5_words, Cond.instanceMethod yX5_words, Cond.code yX5_words cX5_words 1 (some (.object "java/lang/String")), Cond.selects RX6 ⟨"HiredEnemy$Telling", "words", "()Ljava/lang/String;"⟩ yX6_words, Cond.instanceMethod yX6_words, Cond.code yX6_words cX6_words 1 (some (.object "java/lang/String")), Cond.methodLink RX7 58 yX7_kindOf, Cond.instanceMethod yX7_kindOf]
def wsX10_siege_r4 : List Cond := [Cond.selects RX7 yX7_kindOf yX7_kindOf, Cond.code yX7_kindOf cX7_kindOf 6 (some .int), Cond.methodLink RX7 91 yJ0_length_8abf5, Cond.instanceMethod yJ0_length_8abf5, Cond.selects RJ0 yJ0_length_8abf5 yJ0_length_8abf5, Cond.initialized RJ0, Cond.code yJ0_length_8abf5 cJ0_length_8abf5 1 (some .int), Cond.fieldLink RJ0 9 "java/lang/String" "value" "[B", Cond.methodLink RJ0 335 yJ0_coder_7d493, Cond.instanceMethod yJ0_coder_7d493, Cond.selects RJ0 yJ0_coder_7d493 yJ0_coder_7d493, Cond.code yJ0_coder_7d493 cJ0_coder_7d493 1 (some .byte), Cond.fieldLink RJ0 38 "java/lang/String" "COMPACT_STRINGS" "Z", Cond.fieldLink RJ0 15 "java/lang/String" "coder" "B", Cond.methodLink RX7 95 yJ0_charAt_5068e, Cond.instanceMethod yJ0_charAt_5068e, Cond.selects RJ0 yJ0_charAt_5068e yJ0_charAt_5068e, Cond.code yJ0_charAt_5068e cJ0_charAt_5068e 2 (some .char), Cond.methodLink RJ0 492 yJ0_isLatin1_aae02, Cond.instanceMethod yJ0_isLatin1_aae02, Cond.selects RJ0 yJ0_isLatin1_aae02 yJ0_isLatin1_aae02, Cond.code yJ0_isLatin1_aae02 cJ0_isLatin1_aae02 1 (some .boolean), Cond.methodLink RJ0 495 yJ1_charAt_3b067, Cond.static yJ1_charAt_3b067]
def wsX10_siege_r5 : List Cond := [Cond.initialized RJ1, Cond.code yJ1_charAt_3b067 cJ1_charAt_3b067 2 (some .char), Cond.methodLink RJ1 9 yJ0_checkIndex_df160, Cond.static yJ0_checkIndex_df160, Cond.code yJ0_checkIndex_df160 cJ0_checkIndex_df160 2 none, Cond.fieldLink RJ0 1053 "jdk/internal/util/Preconditions" "SIOOBE_FORMATTER" "Ljava/util/function/BiFunction;", Cond.methodLink RJ0 1059 yJ3_checkIndex_8e157, Cond.static yJ3_checkIndex_8e157, Cond.initialized RJ3, Cond.code yJ3_checkIndex_8e157 cJ3_checkIndex_8e157 3 (some .int), Cond.methodLink RJ0 498 yJ2_charAt_3b067, Cond.static yJ2_charAt_3b067, Cond.initialized RJ2, Cond.code yJ2_charAt_3b067 cJ2_charAt_3b067 2 (some .char), Cond.methodLink RJ2 67 yJ2_checkIndex_2214a, Cond.static yJ2_checkIndex_2214a, Cond.code yJ2_checkIndex_2214a cJ2_checkIndex_2214a 2 none, Cond.methodLink RJ2 48 yJ2_length_9d52b, Cond.static yJ2_length_9d52b, Cond.code yJ2_length_9d52b cJ2_length_9d52b 1 (some .int), Cond.methodLink RJ2 414 yJ0_checkIndex_df160, Cond.methodLink RJ2 71 yJ2_getChar_3b067, Cond.static yJ2_getChar_3b067, Cond.code yJ2_getChar_3b067 cJ2_getChar_3b067 2 (some .char)]
def wsX10_siege_r6 : List Cond := [Cond.fieldLink RJ2 44 "java/lang/StringUTF16" "$assertionsDisabled" "Z", Cond.fieldLink RJ2 59 "java/lang/StringUTF16" "HI_BYTE_SHIFT" "I", Cond.fieldLink RJ2 63 "java/lang/StringUTF16" "LO_BYTE_SHIFT" "I", Cond.methodLink RX7 99 yX7_isSame, Cond.instanceMethod yX7_isSame, Cond.selects RX7 yX7_isSame yX7_isSame, Cond.code yX7_isSame cX7_isSame 6 (some .boolean), Cond.methodLink RX7 62 yX7_fail, Cond.instanceMethod yX7_fail, Cond.selects RX7 yX7_fail yX7_fail, Cond.code yX7_fail cX7_fail 3 (some .boolean), Cond.methodLink RX7 66 ⟨"HiredEnemy$Telling", "isFull", "(I)Z"⟩, Cond.sameMethod "HiredEnemy$Telling" "HiredEnemy$Telling" "isFull" "(I)Z", Cond.selects RX5 ⟨"HiredEnemy$Telling", "isFull", "(I)Z"⟩ yX5_isFull, Cond.instanceMethod yX5_isFull, Cond.code yX5_isFull cX5_isFull 2 (some .boolean), Cond.selects RX6 ⟨"HiredEnemy$Telling", "isFull", "(I)Z"⟩ yX6_isFull, Cond.instanceMethod yX6_isFull, Cond.code yX6_isFull cX6_isFull 2 (some .boolean), Cond.methodLink RX7 70 ⟨"HiredEnemy$Telling", "numbers", "(I)I"⟩, Cond.sameMethod "HiredEnemy$Telling" "HiredEnemy$Telling" "numbers" "(I)I", Cond.selects RX5 ⟨"HiredEnemy$Telling", "numbers", "(I)I"⟩ yX5_numbers, Cond.instanceMethod yX5_numbers, Cond.code yX5_numbers cX5_numbers 2 (some .int)]
def wsX10_siege_r7 : List Cond := [Cond.selects RX6 ⟨"HiredEnemy$Telling", "numbers", "(I)I"⟩ yX6_numbers, Cond.instanceMethod yX6_numbers, Cond.code yX6_numbers cX6_numbers 2 (some .int), Cond.fieldLink RX6 36 "HiredEnemy$Plan" "NUMBERS" "[I", Cond.static yX10_within, Cond.code yX10_within cX10_within 3 (some .boolean), Cond.methodLink RX7 73 ⟨"HiredEnemy$Telling", "low", "(II)I"⟩, Cond.sameMethod "HiredEnemy$Telling" "HiredEnemy$Telling" "low" "(II)I", Cond.selects RX5 ⟨"HiredEnemy$Telling", "low", "(II)I"⟩ yX5_low, Cond.instanceMethod yX5_low, Cond.code yX5_low cX5_low 3 (some .int), Cond.selects RX6 ⟨"HiredEnemy$Telling", "low", "(II)I"⟩ yX6_low, Cond.instanceMethod yX6_low, Cond.code yX6_low cX6_low 3 (some .int), Cond.methodLink RX7 76 ⟨"HiredEnemy$Telling", "high", "(II)I"⟩, Cond.sameMethod "HiredEnemy$Telling" "HiredEnemy$Telling" "high" "(II)I", Cond.selects RX5 ⟨"HiredEnemy$Telling", "high", "(II)I"⟩ yX5_high, Cond.instanceMethod yX5_high, Cond.code yX5_high cX5_high 3 (some .int), Cond.fieldLink RX5 18 "HiredEnemy$Pact" "walls" "I", Cond.fieldLink RX5 34 "HiredEnemy$Pact" "HIGH" "[I", Cond.selects RX6 ⟨"HiredEnemy$Telling", "high", "(II)I"⟩ yX6_high, Cond.instanceMethod yX6_high, Cond.code yX6_high cX6_high 4 (some .int)]
def wsX10_siege_r8 : List Cond := [Cond.fieldLink RX6 43 "HiredEnemy$Plan" "HIGH" "[I", Cond.methodLink RX7 79 yX7_readNumber, Cond.instanceMethod yX7_readNumber, Cond.selects RX7 yX7_readNumber yX7_readNumber, Cond.code yX7_readNumber cX7_readNumber 6 (some .boolean), Cond.constant RX7 87 (100000), Cond.methodLink RX7 83 ⟨"HiredEnemy$Telling", "store", "(I[I)V"⟩, Cond.sameMethod "HiredEnemy$Telling" "HiredEnemy$Telling" "store" "(I[I)V", Cond.selects RX5 ⟨"HiredEnemy$Telling", "store", "(I[I)V"⟩ yX5_store, Cond.instanceMethod yX5_store, Cond.code yX5_store cX5_store 3 none, Cond.fieldLink RX5 15 "HiredEnemy$Pact" "wallByMonth" "[I", Cond.fieldLink RX5 11 "HiredEnemy$Pact" "said" "[I", Cond.selects RX6 ⟨"HiredEnemy$Telling", "store", "(I[I)V"⟩ yX6_store, Cond.instanceMethod yX6_store, Cond.code yX6_store cX6_store 4 none, Cond.methodLink RX6 46 yX6_addWall, Cond.instanceMethod yX6_addWall, Cond.selects RX6 yX6_addWall yX6_addWall, Cond.code yX6_addWall cX6_addWall 3 none, Cond.fieldLink RX6 21 "HiredEnemy$Plan" "strength" "[I", Cond.fieldLink RX6 24 "HiredEnemy$Plan" "mended" "[I", Cond.methodLink RX6 50 yX6_numbers, Cond.selects RX6 yX6_numbers yX6_numbers]
def wsX10_siege_r9 : List Cond := [Cond.methodLink RX10 98 yX8_begin, Cond.instanceMethod yX8_begin, Cond.selects RX8 yX8_begin yX8_begin, Cond.initialized RX8, Cond.code yX8_begin cX8_begin 2 none, Cond.fieldLink RX8 10 "HiredEnemy$Scene" "course" "LHiredEnemy$Course;", Cond.fieldLink RX8 26 "HiredEnemy$Scene" "belief" "LHiredEnemy$Belief;", Cond.fieldLink RX8 33 "HiredEnemy$Scene" "bids" "LHiredEnemy$Bids;", Cond.methodLink RX8 37 yX4_begin, Cond.instanceMethod yX4_begin, Cond.selects RX4 yX4_begin yX4_begin, Cond.initialized RX4, Cond.code yX4_begin cX4_begin 3 none, Cond.fieldLink RX4 18 "HiredEnemy$Course" "month" "I", Cond.fieldLink RX4 9 "HiredEnemy$Course" "now" "[I", Cond.fieldLink RX4 28 "HiredEnemy$Plan" "said" "[I", Cond.fieldLink RX4 33 "HiredEnemy$Plan" "walls" "I", Cond.fieldLink RX4 36 "HiredEnemy$Plan" "strength" "[I", Cond.methodLink RX4 22 yJ7_fill_53178, Cond.static yJ7_fill_53178, Cond.initialized RJ7, Cond.code yJ7_fill_53178 cJ7_fill_53178 4 none, Cond.methodLink RX8 41 yX2_forget, Cond.instanceMethod yX2_forget]
def wsX10_siege_r10 : List Cond := [Cond.selects RX2 yX2_forget yX2_forget, Cond.initialized RX2, Cond.code yX2_forget cX2_forget 1 none, Cond.fieldLink RX2 16 "HiredEnemy$Belief" "firstReal" "I", Cond.fieldLink RX2 23 "HiredEnemy$Belief" "real" "J", Cond.fieldLink RX2 20 "HiredEnemy$Belief" "firstHired" "I", Cond.fieldLink RX2 27 "HiredEnemy$Belief" "hired" "J", Cond.fieldLink RX2 33 "HiredEnemy$Belief" "things" "I", Cond.methodLink RX8 44 yX3_clear, Cond.instanceMethod yX3_clear, Cond.selects RX3 yX3_clear yX3_clear, Cond.initialized RX3, Cond.code yX3_clear cX3_clear 1 none, Cond.fieldLink RX3 9 "HiredEnemy$Bids" "coins" "[I", Cond.methodLink RX3 16 yJ7_fill_53178]
def wsX10_siege : List Cond := .code yX10_siege cX10_siege 4 (some .int) :: ((wsX10_siege_r1 ++ (wsX10_siege_r2 ++ (wsX10_siege_r3 ++ (wsX10_siege_r4 ++ (wsX10_siege_r5 ++ (wsX10_siege_r6 ++ (wsX10_siege_r7 ++ (wsX10_siege_r8 ++ (wsX10_siege_r9 ++ wsX10_siege_r10))))))))) ++ wsX100 ++ wsX60 ++ wsX70 ++ wsX50 ++ wsX80 ++ wsX40 ++ wsX20 ++ wsX30 ++ (vx_atS RX10 255 "java/lang/IllegalArgumentException" ["java/lang/RuntimeException", "java/lang/Exception"]).filter goodWord)
def wsX10_contract_r1 : List Cond := [Cond.fieldLink RX10 73 "HiredEnemy" "taped" "I", Cond.fieldLink RX10 92 "HiredEnemy" "pactsTold" "I", Cond.fieldLink RX10 16 "HiredEnemy" "reader" "LHiredEnemy$Reader;", Cond.fieldLink RX10 102 "HiredEnemy$Reader" "place" "I", Cond.fieldLink RX10 32 "HiredEnemy" "pacts" "[LHiredEnemy$Pact;", Cond.fieldLink RX10 23 "HiredEnemy" "plan" "LHiredEnemy$Plan;", Cond.fieldLink RX10 99 "HiredEnemy$Plan" "walls" "I", Cond.fieldLink RX10 9 "HiredEnemy" "tape" "[B", Cond.methodLink RX10 81 yX10_demand, Cond.instanceMethod yX10_demand, Cond.selects RX10 yX10_demand yX10_demand, Cond.initialized RX10, Cond.code yX10_demand cX10_demand 2 none, Cond.classLink RX10 251 "java/lang/IllegalArgumentException", Cond.initialized "java/lang/IllegalArgumentException", Cond.fieldLink RX10 61 "HiredEnemy" "refused" "[I", Cond.methodLink RX10 105 yX5_clear, Cond.instanceMethod yX5_clear, Cond.selects RX5 yX5_clear yX5_clear, Cond.initialized RX5, Cond.code yX5_clear cX5_clear 2 none, Cond.fieldLink RX5 18 "HiredEnemy$Pact" "walls" "I", Cond.fieldLink RX5 11 "HiredEnemy$Pact" "said" "[I", Cond.fieldLink RX5 15 "HiredEnemy$Pact" "wallByMonth" "[I"]
def wsX10_contract_r2 : List Cond := [Cond.methodLink RX5 22 yJ7_fill_53178, Cond.static yJ7_fill_53178, Cond.initialized RJ7, Cond.code yJ7_fill_53178 cJ7_fill_53178 4 none, Cond.methodLink RX10 88 yX7_read, Cond.instanceMethod yX7_read, Cond.selects RX7 yX7_read yX7_read, Cond.initialized RX7, Cond.code yX7_read cX7_read 5 (some .int), Cond.fieldLink RX7 9 "HiredEnemy$Reader" "bytes" "[B", Cond.methodLink RX7 23 Lib.Math.min.name, Cond.static Lib.Math.min.name, Cond.initialized "java/lang/Math", Cond.code Lib.Math.min.name Lib.Math.min.code 2 (some .int), Cond.fieldLink RX7 29 "HiredEnemy$Reader" "length" "I", Cond.fieldLink RX7 32 "HiredEnemy$Reader" "at" "I", Cond.fieldLink RX7 35 "HiredEnemy$Reader" "fault" "I", Cond.fieldLink RX7 15 "HiredEnemy$Reader" "place" "I", Cond.methodLink RX7 38 ⟨"HiredEnemy$Telling", "mostParts", "()I"⟩, Cond.sameMethod "HiredEnemy$Telling" "HiredEnemy$Telling" "mostParts" "()I", Cond.selects RX5 ⟨"HiredEnemy$Telling", "mostParts", "()I"⟩ yX5_mostParts, Cond.instanceMethod yX5_mostParts, Cond.code yX5_mostParts cX5_mostParts 1 (some .int), Cond.selects RX6 ⟨"HiredEnemy$Telling", "mostParts", "()I"⟩ yX6_mostParts]
def wsX10_contract_r3 : List Cond := [Cond.instanceMethod yX6_mostParts, Cond.initialized RX6, Cond.code yX6_mostParts cX6_mostParts 1 (some .int), Cond.methodLink RX7 44 yX7_skipBlanks, Cond.instanceMethod yX7_skipBlanks, Cond.selects RX7 yX7_skipBlanks yX7_skipBlanks, Cond.code yX7_skipBlanks cX7_skipBlanks 1 none, Cond.methodLink RX7 47 yX7_readPart, Cond.instanceMethod yX7_readPart, Cond.selects RX7 yX7_readPart yX7_readPart, Cond.code yX7_readPart cX7_readPart 7 (some .boolean), Cond.fieldLink RX7 19 "HiredEnemy$Reader" "numbers" "[I", Cond.methodLink RX7 51 yX7_skipLetters, Cond.instanceMethod yX7_skipLetters, Cond.selects RX7 yX7_skipLetters yX7_skipLetters, Cond.code yX7_skipLetters cX7_skipLetters 1 none, Cond.methodLink RX7 54 ⟨"HiredEnemy$Telling", "words", "()Ljava/lang/String;"⟩, Cond.sameMethod "HiredEnemy$Telling" "HiredEnemy$Telling" "words" "()Ljava/lang/String;", Cond.selects RX5 ⟨"HiredEnemy$Telling", "words", "()Ljava/lang/String;"⟩ yX5_words, Cond.instanceMethod yX5_words, Cond.code yX5_words cX5_words 1 (some (.object "java/lang/String")), Cond.selects RX6 ⟨"HiredEnemy$Telling", "words", "()Ljava/lang/String;"⟩ yX6_words, Cond.instanceMethod yX6_words, Cond.code yX6_words cX6_words 1 (some (.object "java/lang/String"))]
def wsX10_contract_r4 : List Cond := [Cond.methodLink RX7 58 yX7_kindOf, Cond.instanceMethod yX7_kindOf, Cond.selects RX7 yX7_kindOf yX7_kindOf, Cond.code yX7_kindOf cX7_kindOf 6 (some .int), Cond.methodLink RX7 91 yJ0_length_8abf5, Cond.instanceMethod yJ0_length_8abf5, Cond.selects RJ0 yJ0_length_8abf5 yJ0_length_8abf5, Cond.initialized RJ0, Cond.code yJ0_length_8abf5 cJ0_length_8abf5 1 (some .int), Cond.fieldLink RJ0 9 "java/lang/String" "value" "[B", Cond.methodLink RJ0 335 yJ0_coder_7d493, Cond.instanceMethod yJ0_coder_7d493, Cond.selects RJ0 yJ0_coder_7d493 yJ0_coder_7d493, Cond.code yJ0_coder_7d493 cJ0_coder_7d493 1 (some .byte), Cond.fieldLink RJ0 38 "java/lang/String" "COMPACT_STRINGS" "Z", Cond.fieldLink RJ0 15 "java/lang/String" "coder" "B", Cond.methodLink RX7 95 yJ0_charAt_5068e, Cond.instanceMethod yJ0_charAt_5068e, Cond.selects RJ0 yJ0_charAt_5068e yJ0_charAt_5068e, Cond.code yJ0_charAt_5068e cJ0_charAt_5068e 2 (some .char), Cond.methodLink RJ0 492 yJ0_isLatin1_aae02, Cond.instanceMethod yJ0_isLatin1_aae02, Cond.selects RJ0 yJ0_isLatin1_aae02 yJ0_isLatin1_aae02, Cond.code yJ0_isLatin1_aae02 cJ0_isLatin1_aae02 1 (some .boolean)]
def wsX10_contract_r5 : List Cond := [Cond.methodLink RJ0 495 yJ1_charAt_3b067, Cond.static yJ1_charAt_3b067, Cond.initialized RJ1, Cond.code yJ1_charAt_3b067 cJ1_charAt_3b067 2 (some .char), Cond.methodLink RJ1 9 yJ0_checkIndex_df160, Cond.static yJ0_checkIndex_df160, Cond.code yJ0_checkIndex_df160 cJ0_checkIndex_df160 2 none, Cond.fieldLink RJ0 1053 "jdk/internal/util/Preconditions" "SIOOBE_FORMATTER" "Ljava/util/function/BiFunction;", Cond.methodLink RJ0 1059 yJ3_checkIndex_8e157, Cond.static yJ3_checkIndex_8e157, Cond.initialized RJ3, Cond.code yJ3_checkIndex_8e157 cJ3_checkIndex_8e157 3 (some .int), Cond.methodLink RJ0 498 yJ2_charAt_3b067, Cond.static yJ2_charAt_3b067, Cond.initialized RJ2, Cond.code yJ2_charAt_3b067 cJ2_charAt_3b067 2 (some .char), Cond.methodLink RJ2 67 yJ2_checkIndex_2214a, Cond.static yJ2_checkIndex_2214a, Cond.code yJ2_checkIndex_2214a cJ2_checkIndex_2214a 2 none, Cond.methodLink RJ2 48 yJ2_length_9d52b, Cond.static yJ2_length_9d52b, Cond.code yJ2_length_9d52b cJ2_length_9d52b 1 (some .int), Cond.methodLink RJ2 414 yJ0_checkIndex_df160, Cond.methodLink RJ2 71 yJ2_getChar_3b067]
def wsX10_contract_r6 : List Cond := [Cond.static yJ2_getChar_3b067, Cond.code yJ2_getChar_3b067 cJ2_getChar_3b067 2 (some .char), Cond.fieldLink RJ2 44 "java/lang/StringUTF16" "$assertionsDisabled" "Z", Cond.fieldLink RJ2 59 "java/lang/StringUTF16" "HI_BYTE_SHIFT" "I", Cond.fieldLink RJ2 63 "java/lang/StringUTF16" "LO_BYTE_SHIFT" "I", Cond.methodLink RX7 99 yX7_isSame, Cond.instanceMethod yX7_isSame, Cond.selects RX7 yX7_isSame yX7_isSame, Cond.code yX7_isSame cX7_isSame 6 (some .boolean), Cond.methodLink RX7 62 yX7_fail, Cond.instanceMethod yX7_fail, Cond.selects RX7 yX7_fail yX7_fail, Cond.code yX7_fail cX7_fail 3 (some .boolean), Cond.methodLink RX7 66 ⟨"HiredEnemy$Telling", "isFull", "(I)Z"⟩, Cond.sameMethod "HiredEnemy$Telling" "HiredEnemy$Telling" "isFull" "(I)Z", Cond.selects RX5 ⟨"HiredEnemy$Telling", "isFull", "(I)Z"⟩ yX5_isFull, Cond.instanceMethod yX5_isFull, Cond.code yX5_isFull cX5_isFull 2 (some .boolean), Cond.selects RX6 ⟨"HiredEnemy$Telling", "isFull", "(I)Z"⟩ yX6_isFull, Cond.instanceMethod yX6_isFull, Cond.code yX6_isFull cX6_isFull 2 (some .boolean), Cond.fieldLink RX6 30 "HiredEnemy$Plan" "walls" "I", Cond.methodLink RX7 70 ⟨"HiredEnemy$Telling", "numbers", "(I)I"⟩, Cond.sameMethod "HiredEnemy$Telling" "HiredEnemy$Telling" "numbers" "(I)I"]
def wsX10_contract_r7 : List Cond := [Cond.selects RX5 ⟨"HiredEnemy$Telling", "numbers", "(I)I"⟩ yX5_numbers, Cond.instanceMethod yX5_numbers, Cond.code yX5_numbers cX5_numbers 2 (some .int), Cond.selects RX6 ⟨"HiredEnemy$Telling", "numbers", "(I)I"⟩ yX6_numbers, Cond.instanceMethod yX6_numbers, Cond.code yX6_numbers cX6_numbers 2 (some .int), Cond.fieldLink RX6 36 "HiredEnemy$Plan" "NUMBERS" "[I", Cond.static yX10_within, Cond.code yX10_within cX10_within 3 (some .boolean), Cond.methodLink RX7 73 ⟨"HiredEnemy$Telling", "low", "(II)I"⟩, Cond.sameMethod "HiredEnemy$Telling" "HiredEnemy$Telling" "low" "(II)I", Cond.selects RX5 ⟨"HiredEnemy$Telling", "low", "(II)I"⟩ yX5_low, Cond.instanceMethod yX5_low, Cond.code yX5_low cX5_low 3 (some .int), Cond.selects RX6 ⟨"HiredEnemy$Telling", "low", "(II)I"⟩ yX6_low, Cond.instanceMethod yX6_low, Cond.code yX6_low cX6_low 3 (some .int), Cond.methodLink RX7 76 ⟨"HiredEnemy$Telling", "high", "(II)I"⟩, Cond.sameMethod "HiredEnemy$Telling" "HiredEnemy$Telling" "high" "(II)I", Cond.selects RX5 ⟨"HiredEnemy$Telling", "high", "(II)I"⟩ yX5_high, Cond.instanceMethod yX5_high, Cond.code yX5_high cX5_high 3 (some .int), Cond.fieldLink RX5 34 "HiredEnemy$Pact" "HIGH" "[I", Cond.selects RX6 ⟨"HiredEnemy$Telling", "high", "(II)I"⟩ yX6_high]
def wsX10_contract_r8 : List Cond := [Cond.instanceMethod yX6_high, Cond.code yX6_high cX6_high 4 (some .int), Cond.fieldLink RX6 43 "HiredEnemy$Plan" "HIGH" "[I", Cond.methodLink RX7 79 yX7_readNumber, Cond.instanceMethod yX7_readNumber, Cond.selects RX7 yX7_readNumber yX7_readNumber, Cond.code yX7_readNumber cX7_readNumber 6 (some .boolean), Cond.constant RX7 87 (100000), Cond.methodLink RX7 83 ⟨"HiredEnemy$Telling", "store", "(I[I)V"⟩, Cond.sameMethod "HiredEnemy$Telling" "HiredEnemy$Telling" "store" "(I[I)V", Cond.selects RX5 ⟨"HiredEnemy$Telling", "store", "(I[I)V"⟩ yX5_store, Cond.instanceMethod yX5_store, Cond.code yX5_store cX5_store 3 none, Cond.selects RX6 ⟨"HiredEnemy$Telling", "store", "(I[I)V"⟩ yX6_store, Cond.instanceMethod yX6_store, Cond.code yX6_store cX6_store 4 none, Cond.fieldLink RX6 18 "HiredEnemy$Plan" "fearByNear" "[I", Cond.fieldLink RX6 15 "HiredEnemy$Plan" "said" "[I", Cond.methodLink RX6 46 yX6_addWall, Cond.instanceMethod yX6_addWall, Cond.selects RX6 yX6_addWall yX6_addWall, Cond.code yX6_addWall cX6_addWall 3 none, Cond.fieldLink RX6 21 "HiredEnemy$Plan" "strength" "[I", Cond.fieldLink RX6 24 "HiredEnemy$Plan" "mended" "[I"]
def wsX10_contract_r9 : List Cond := [Cond.methodLink RX6 50 yX6_numbers, Cond.selects RX6 yX6_numbers yX6_numbers]
def wsX10_contract : List Cond := .code yX10_contract cX10_contract 4 (some .int) :: ((wsX10_contract_r1 ++ (wsX10_contract_r2 ++ (wsX10_contract_r3 ++ (wsX10_contract_r4 ++ (wsX10_contract_r5 ++ (wsX10_contract_r6 ++ (wsX10_contract_r7 ++ (wsX10_contract_r8 ++ wsX10_contract_r9)))))))) ++ wsX100 ++ wsX70 ++ wsX60 ++ wsX50 ++ (vx_atS RX10 255 "java/lang/IllegalArgumentException" ["java/lang/RuntimeException", "java/lang/Exception"]).filter goodWord)
def wsX10_fault : List Cond := .code yX10_fault cX10_fault 1 (some .int) :: ([.fieldLink RX10 16 "HiredEnemy" "reader" "LHiredEnemy$Reader;", .fieldLink RX10 102 "HiredEnemy$Reader" "place" "I"] ++ wsX100 ++ wsX70)
def wsX10_told : List Cond := .code yX10_told cX10_told 4 (some .int) :: ([.fieldLink RX10 39 "HiredEnemy" "scene" "LHiredEnemy$Scene;", .fieldLink RX10 66 "HiredEnemy$Scene" "course" "LHiredEnemy$Course;", .fieldLink RX10 111 "HiredEnemy$Course" "now" "[I", .fieldLink RX10 23 "HiredEnemy" "plan" "LHiredEnemy$Plan;", .fieldLink RX10 99 "HiredEnemy$Plan" "walls" "I", .fieldLink RX10 92 "HiredEnemy" "pactsTold" "I", .fieldLink RX10 114 "HiredEnemy$Course" "month" "I", .methodLink RX10 107 yX10_within, .static yX10_within, .initialized RX10, .code yX10_within cX10_within 3 (some .boolean), .methodLink RX10 81 yX10_demand, .instanceMethod yX10_demand, .selects RX10 yX10_demand yX10_demand, .code yX10_demand cX10_demand 2 none, .classLink RX10 251 "java/lang/IllegalArgumentException", .initialized "java/lang/IllegalArgumentException", .fieldLink RX10 61 "HiredEnemy" "refused" "[I"] ++ wsX100 ++ wsX80 ++ wsX40 ++ wsX60 ++ (vx_atS RX10 255 "java/lang/IllegalArgumentException" ["java/lang/RuntimeException", "java/lang/Exception"]).filter goodWord)
def wsX10_demandWall : List Cond := .code yX10_demandWall cX10_demandWall 2 none :: ([.classLink RX10 258 "java/lang/IndexOutOfBoundsException", .initialized "java/lang/IndexOutOfBoundsException", .fieldLink RX10 23 "HiredEnemy" "plan" "LHiredEnemy$Plan;", .fieldLink RX10 99 "HiredEnemy$Plan" "walls" "I", .fieldLink RX10 61 "HiredEnemy" "refused" "[I", .methodLink RX10 107 yX10_within, .static yX10_within, .initialized RX10, .code yX10_within cX10_within 3 (some .boolean)] ++ wsX100 ++ wsX60 ++ (vx_atS RX10 262 "java/lang/IndexOutOfBoundsException" ["java/lang/RuntimeException", "java/lang/Exception"]).filter goodWord)
def wsX10_wall : List Cond := .code yX10_wall cX10_wall 3 (some .int) :: ([.fieldLink RX10 23 "HiredEnemy" "plan" "LHiredEnemy$Plan;", .fieldLink RX10 120 "HiredEnemy$Plan" "strength" "[I", .fieldLink RX10 39 "HiredEnemy" "scene" "LHiredEnemy$Scene;", .fieldLink RX10 66 "HiredEnemy$Scene" "course" "LHiredEnemy$Course;", .fieldLink RX10 111 "HiredEnemy$Course" "now" "[I", .fieldLink RX10 123 "HiredEnemy$Plan" "mended" "[I", .methodLink RX10 117 yX10_demandWall, .instanceMethod yX10_demandWall, .selects RX10 yX10_demandWall yX10_demandWall, .initialized RX10, .code yX10_demandWall cX10_demandWall 2 none, .classLink RX10 258 "java/lang/IndexOutOfBoundsException", .initialized "java/lang/IndexOutOfBoundsException", .fieldLink RX10 99 "HiredEnemy$Plan" "walls" "I", .fieldLink RX10 61 "HiredEnemy" "refused" "[I", .methodLink RX10 107 yX10_within, .static yX10_within, .code yX10_within cX10_within 3 (some .boolean), .methodLink RX10 81 yX10_demand, .instanceMethod yX10_demand, .selects RX10 yX10_demand yX10_demand, .code yX10_demand cX10_demand 2 none, .classLink RX10 251 "java/lang/IllegalArgumentException", .initialized "java/lang/IllegalArgumentException"] ++ wsX100 ++ wsX60 ++ wsX80 ++ wsX40 ++ (vx_atS RX10 262 "java/lang/IndexOutOfBoundsException" ["java/lang/RuntimeException", "java/lang/Exception"]).filter goodWord ++ (vx_atS RX10 255 "java/lang/IllegalArgumentException" ["java/lang/RuntimeException", "java/lang/Exception"]).filter goodWord)
def wsX10_demandContract : List Cond := .code yX10_demandContract cX10_demandContract 2 none :: ([.classLink RX10 263 "java/util/NoSuchElementException", .initialized "java/util/NoSuchElementException", .fieldLink RX10 92 "HiredEnemy" "pactsTold" "I", .fieldLink RX10 61 "HiredEnemy" "refused" "[I", .methodLink RX10 107 yX10_within, .static yX10_within, .initialized RX10, .code yX10_within cX10_within 3 (some .boolean)] ++ wsX100 ++ (vx_atS RX10 267 "java/util/NoSuchElementException" ["java/lang/RuntimeException", "java/lang/Exception"]).filter goodWord)
def wsX10_rule_r1 : List Cond := [Cond.fieldLink RX10 32 "HiredEnemy" "pacts" "[LHiredEnemy$Pact;", Cond.methodLink RX10 126 yX10_demandContract, Cond.instanceMethod yX10_demandContract, Cond.selects RX10 yX10_demandContract yX10_demandContract, Cond.initialized RX10, Cond.code yX10_demandContract cX10_demandContract 2 none, Cond.classLink RX10 263 "java/util/NoSuchElementException", Cond.initialized "java/util/NoSuchElementException", Cond.fieldLink RX10 92 "HiredEnemy" "pactsTold" "I", Cond.fieldLink RX10 61 "HiredEnemy" "refused" "[I", Cond.methodLink RX10 107 yX10_within, Cond.static yX10_within, Cond.code yX10_within cX10_within 3 (some .boolean), Cond.methodLink RX10 81 yX10_demand, Cond.instanceMethod yX10_demand, Cond.selects RX10 yX10_demand yX10_demand, Cond.code yX10_demand cX10_demand 2 none, Cond.classLink RX10 251 "java/lang/IllegalArgumentException", Cond.initialized "java/lang/IllegalArgumentException", Cond.methodLink RX10 129 yX5_answer, Cond.instanceMethod yX5_answer, Cond.selects RX5 yX5_answer yX5_answer, Cond.initialized RX5, Cond.code yX5_answer cX5_answer 2 (some .int)]
def wsX10_rule_r2 : List Cond := [Cond.fieldLink RX5 11 "HiredEnemy$Pact" "said" "[I", Cond.methodLink RX5 41 yX5_breachesTold, Cond.instanceMethod yX5_breachesTold, Cond.selects RX5 yX5_breachesTold yX5_breachesTold, Cond.code yX5_breachesTold cX5_breachesTold 6 (some .int), Cond.fieldLink RX5 15 "HiredEnemy$Pact" "wallByMonth" "[I", Cond.methodLink RX5 45 yX5_winterPay, Cond.instanceMethod yX5_winterPay, Cond.selects RX5 yX5_winterPay yX5_winterPay, Cond.code yX5_winterPay cX5_winterPay 1 (some .int)]
def wsX10_rule : List Cond := .code yX10_rule cX10_rule 3 (some .int) :: ((wsX10_rule_r1 ++ wsX10_rule_r2) ++ wsX100 ++ wsX50 ++ (vx_atS RX10 267 "java/util/NoSuchElementException" ["java/lang/RuntimeException", "java/lang/Exception"]).filter goodWord ++ (vx_atS RX10 255 "java/lang/IllegalArgumentException" ["java/lang/RuntimeException", "java/lang/Exception"]).filter goodWord)
def wsX10_wants : List Cond := .code yX10_wants cX10_wants 3 (some .int) :: ([.fieldLink RX10 23 "HiredEnemy" "plan" "LHiredEnemy$Plan;", .methodLink RX10 107 yX10_within, .static yX10_within, .initialized RX10, .code yX10_within cX10_within 3 (some .boolean), .methodLink RX10 81 yX10_demand, .instanceMethod yX10_demand, .selects RX10 yX10_demand yX10_demand, .code yX10_demand cX10_demand 2 none, .classLink RX10 251 "java/lang/IllegalArgumentException", .initialized "java/lang/IllegalArgumentException", .fieldLink RX10 61 "HiredEnemy" "refused" "[I", .methodLink RX10 133 yX6_wanted, .instanceMethod yX6_wanted, .selects RX6 yX6_wanted yX6_wanted, .initialized RX6, .code yX6_wanted cX6_wanted 3 (some .int), .fieldLink RX6 15 "HiredEnemy$Plan" "said" "[I"] ++ wsX100 ++ wsX60 ++ (vx_atS RX10 255 "java/lang/IllegalArgumentException" ["java/lang/RuntimeException", "java/lang/Exception"]).filter goodWord)
def wsX10_demandContractOrNone : List Cond := .code yX10_demandContractOrNone cX10_demandContractOrNone 2 none :: ([.methodLink RX10 126 yX10_demandContract, .instanceMethod yX10_demandContract, .selects RX10 yX10_demandContract yX10_demandContract, .initialized RX10, .code yX10_demandContract cX10_demandContract 2 none, .classLink RX10 263 "java/util/NoSuchElementException", .initialized "java/util/NoSuchElementException", .fieldLink RX10 92 "HiredEnemy" "pactsTold" "I", .fieldLink RX10 61 "HiredEnemy" "refused" "[I", .methodLink RX10 107 yX10_within, .static yX10_within, .code yX10_within cX10_within 3 (some .boolean)] ++ wsX100 ++ (vx_atS RX10 267 "java/util/NoSuchElementException" ["java/lang/RuntimeException", "java/lang/Exception"]).filter goodWord)
def wsX10_sign_r1 : List Cond := [Cond.fieldLink RX10 39 "HiredEnemy" "scene" "LHiredEnemy$Scene;", Cond.fieldLink RX10 66 "HiredEnemy$Scene" "course" "LHiredEnemy$Course;", Cond.fieldLink RX10 111 "HiredEnemy$Course" "now" "[I", Cond.methodLink RX10 137 yX10_demandContractOrNone, Cond.instanceMethod yX10_demandContractOrNone, Cond.selects RX10 yX10_demandContractOrNone yX10_demandContractOrNone, Cond.initialized RX10, Cond.code yX10_demandContractOrNone cX10_demandContractOrNone 2 none, Cond.methodLink RX10 126 yX10_demandContract, Cond.instanceMethod yX10_demandContract, Cond.selects RX10 yX10_demandContract yX10_demandContract, Cond.code yX10_demandContract cX10_demandContract 2 none, Cond.classLink RX10 263 "java/util/NoSuchElementException", Cond.initialized "java/util/NoSuchElementException", Cond.fieldLink RX10 92 "HiredEnemy" "pactsTold" "I", Cond.fieldLink RX10 61 "HiredEnemy" "refused" "[I", Cond.methodLink RX10 107 yX10_within, Cond.static yX10_within, Cond.code yX10_within cX10_within 3 (some .boolean), Cond.methodLink RX10 140 yX4_pledge, Cond.instanceMethod yX4_pledge, Cond.selects RX4 yX4_pledge yX4_pledge, Cond.initialized RX4, Cond.code yX4_pledge cX4_pledge 2 none]
def wsX10_sign_r2 : List Cond := [Cond.fieldLink RX4 9 "HiredEnemy$Course" "now" "[I", Cond.fieldLink RX4 18 "HiredEnemy$Course" "month" "I"]
def wsX10_sign : List Cond := .code yX10_sign cX10_sign 3 (some .int) :: ((wsX10_sign_r1 ++ wsX10_sign_r2) ++ wsX100 ++ wsX80 ++ wsX40 ++ (vx_atS RX10 267 "java/util/NoSuchElementException" ["java/lang/RuntimeException", "java/lang/Exception"]).filter goodWord)
def wsX10_inForce : List Cond := .code yX10_inForce cX10_inForce 3 (some (.object "HiredEnemy$Pact")) :: ([.fieldLink RX10 111 "HiredEnemy$Course" "now" "[I", .fieldLink RX10 32 "HiredEnemy" "pacts" "[LHiredEnemy$Pact;", .methodLink RX10 107 yX10_within, .static yX10_within, .initialized RX10, .code yX10_within cX10_within 3 (some .boolean)] ++ wsX40 ++ wsX100)
def wsX10_months_r1 : List Cond := [Cond.fieldLink RX10 39 "HiredEnemy" "scene" "LHiredEnemy$Scene;", Cond.fieldLink RX10 66 "HiredEnemy$Scene" "course" "LHiredEnemy$Course;", Cond.fieldLink RX10 114 "HiredEnemy$Course" "month" "I", Cond.fieldLink RX10 143 "HiredEnemy$Scene" "annals" "LHiredEnemy$Annals;", Cond.fieldLink RX10 23 "HiredEnemy" "plan" "LHiredEnemy$Plan;", Cond.methodLink RX10 107 yX10_within, Cond.static yX10_within, Cond.initialized RX10, Cond.code yX10_within cX10_within 3 (some .boolean), Cond.methodLink RX10 81 yX10_demand, Cond.instanceMethod yX10_demand, Cond.selects RX10 yX10_demand yX10_demand, Cond.code yX10_demand cX10_demand 2 none, Cond.classLink RX10 251 "java/lang/IllegalArgumentException", Cond.initialized "java/lang/IllegalArgumentException", Cond.fieldLink RX10 61 "HiredEnemy" "refused" "[I", Cond.methodLink RX10 147 yX0_keep, Cond.instanceMethod yX0_keep, Cond.selects RX0 yX0_keep yX0_keep, Cond.initialized RX0, Cond.code yX0_keep cX0_keep 2 none, Cond.fieldLink RX0 15 "HiredEnemy$Course" "month" "I", Cond.fieldLink RX0 25 "HiredEnemy$Course" "now" "[I", Cond.fieldLink RX0 11 "HiredEnemy$Annals" "lines" "[I"]
def wsX10_months_r2 : List Cond := [Cond.methodLink RX0 28 arraycopyName, Cond.native arraycopyName, Cond.static arraycopyName, Cond.initialized "java/lang/System", Cond.methodLink RX10 153 yX10_inForce, Cond.instanceMethod yX10_inForce, Cond.selects RX10 yX10_inForce yX10_inForce, Cond.code yX10_inForce cX10_inForce 3 (some (.object "HiredEnemy$Pact")), Cond.fieldLink RX10 111 "HiredEnemy$Course" "now" "[I", Cond.fieldLink RX10 32 "HiredEnemy" "pacts" "[LHiredEnemy$Pact;", Cond.methodLink RX10 157 yX4_pass, Cond.instanceMethod yX4_pass, Cond.selects RX4 yX4_pass yX4_pass, Cond.initialized RX4, Cond.code yX4_pass cX4_pass 3 none, Cond.fieldLink RX4 15 "HiredEnemy$Course" "shot" "[I", Cond.fieldLink RX4 9 "HiredEnemy$Course" "now" "[I", Cond.fieldLink RX4 28 "HiredEnemy$Plan" "said" "[I", Cond.fieldLink RX4 57 "HiredEnemy$Pact" "said" "[I", Cond.methodLink RX4 68 Lib.Math.max.name, Cond.static Lib.Math.max.name, Cond.initialized "java/lang/Math", Cond.code Lib.Math.max.name Lib.Math.max.code 2 (some .int), Cond.fieldLink RX4 18 "HiredEnemy$Course" "month" "I"]
def wsX10_months_r3 : List Cond := [Cond.methodLink RX4 22 yJ7_fill_53178, Cond.static yJ7_fill_53178, Cond.initialized RJ7, Cond.code yJ7_fill_53178 cJ7_fill_53178 4 none, Cond.methodLink RX4 45 yX4_move, Cond.instanceMethod yX4_move, Cond.selects RX4 yX4_move yX4_move, Cond.code yX4_move cX4_move 5 none, Cond.methodLink RX4 81 Lib.Math.min.name, Cond.static Lib.Math.min.name, Cond.code Lib.Math.min.name Lib.Math.min.code 2 (some .int), Cond.methodLink RX4 49 yX4_isPaid, Cond.instanceMethod yX4_isPaid, Cond.selects RX4 yX4_isPaid yX4_isPaid, Cond.code yX4_isPaid cX4_isPaid 3 (some .boolean), Cond.methodLink RX4 84 yX5_payIn, Cond.instanceMethod yX5_payIn, Cond.selects RX5 yX5_payIn yX5_payIn, Cond.initialized RX5, Cond.code yX5_payIn cX5_payIn 3 (some .int), Cond.fieldLink RX5 11 "HiredEnemy$Pact" "said" "[I", Cond.methodLink RX5 45 yX5_winterPay, Cond.instanceMethod yX5_winterPay, Cond.selects RX5 yX5_winterPay yX5_winterPay]
def wsX10_months_r4 : List Cond := [Cond.code yX5_winterPay cX5_winterPay 1 (some .int), Cond.methodLink RX4 53 yX4_shoot, Cond.instanceMethod yX4_shoot, Cond.selects RX4 yX4_shoot yX4_shoot, Cond.code yX4_shoot cX4_shoot 9 none, Cond.fieldLink RX4 33 "HiredEnemy$Plan" "walls" "I", Cond.methodLink RX4 87 yX5_wallDue, Cond.instanceMethod yX5_wallDue, Cond.selects RX5 yX5_wallDue yX5_wallDue, Cond.code yX5_wallDue cX5_wallDue 4 (some .int), Cond.fieldLink RX5 15 "HiredEnemy$Pact" "wallByMonth" "[I", Cond.methodLink RX4 90 yX4_weakest, Cond.instanceMethod yX4_weakest, Cond.selects RX4 yX4_weakest yX4_weakest, Cond.code yX4_weakest cX4_weakest 4 (some .int), Cond.methodLink RX4 93 yX4_breach, Cond.instanceMethod yX4_breach, Cond.selects RX4 yX4_breach yX4_breach, Cond.code yX4_breach cX4_breach 4 none, Cond.fieldLink RX4 36 "HiredEnemy$Plan" "strength" "[I", Cond.methodLink RX4 64 yX4_frighten, Cond.instanceMethod yX4_frighten, Cond.selects RX4 yX4_frighten yX4_frighten, Cond.code yX4_frighten cX4_frighten 2 none]
def wsX10_months_r5 : List Cond := [Cond.methodLink RX4 60 yX6_fearAt, Cond.instanceMethod yX6_fearAt, Cond.selects RX6 yX6_fearAt yX6_fearAt, Cond.initialized RX6, Cond.code yX6_fearAt cX6_fearAt 2 (some .int), Cond.fieldLink RX6 18 "HiredEnemy$Plan" "fearByNear" "[I", Cond.methodLink RX4 74 yX4_mend, Cond.instanceMethod yX4_mend, Cond.selects RX4 yX4_mend yX4_mend, Cond.code yX4_mend cX4_mend 5 none, Cond.fieldLink RX4 97 "HiredEnemy$Plan" "mended" "[I", Cond.methodLink RX4 78 yX4_desert, Cond.instanceMethod yX4_desert, Cond.selects RX4 yX4_desert yX4_desert, Cond.code yX4_desert cX4_desert 5 none, Cond.methodLink RX4 100 Lib.Math.abs.name, Cond.static Lib.Math.abs.name, Cond.code Lib.Math.abs.name Lib.Math.abs.code 1 (some .int), Cond.methodLink RX10 161 yX0_lead, Cond.instanceMethod yX0_lead, Cond.selects RX0 yX0_lead yX0_lead, Cond.code yX0_lead cX0_lead 2 none, Cond.fieldLink RX0 34 "HiredEnemy$Course" "shot" "[I"]
def wsX10_months : List Cond := .code yX10_months cX10_months 3 (some .int) :: ((wsX10_months_r1 ++ (wsX10_months_r2 ++ (wsX10_months_r3 ++ (wsX10_months_r4 ++ wsX10_months_r5)))) ++ wsX100 ++ wsX80 ++ wsX40 ++ wsX00 ++ wsX60 ++ wsX50 ++ (vx_atS RX10 255 "java/lang/IllegalArgumentException" ["java/lang/RuntimeException", "java/lang/Exception"]).filter goodWord)
def wsX10_undo_r1 : List Cond := [Cond.fieldLink RX10 39 "HiredEnemy" "scene" "LHiredEnemy$Scene;", Cond.fieldLink RX10 66 "HiredEnemy$Scene" "course" "LHiredEnemy$Course;", Cond.fieldLink RX10 114 "HiredEnemy$Course" "month" "I", Cond.methodLink RX10 164 Lib.Math.min.name, Cond.static Lib.Math.min.name, Cond.initialized "java/lang/Math", Cond.code Lib.Math.min.name Lib.Math.min.code 2 (some .int), Cond.fieldLink RX10 143 "HiredEnemy$Scene" "annals" "LHiredEnemy$Annals;", Cond.methodLink RX10 107 yX10_within, Cond.static yX10_within, Cond.initialized RX10, Cond.code yX10_within cX10_within 3 (some .boolean), Cond.methodLink RX10 81 yX10_demand, Cond.instanceMethod yX10_demand, Cond.selects RX10 yX10_demand yX10_demand, Cond.code yX10_demand cX10_demand 2 none, Cond.classLink RX10 251 "java/lang/IllegalArgumentException", Cond.initialized "java/lang/IllegalArgumentException", Cond.fieldLink RX10 61 "HiredEnemy" "refused" "[I", Cond.methodLink RX10 169 yX0_giveBack, Cond.instanceMethod yX0_giveBack, Cond.selects RX0 yX0_giveBack yX0_giveBack, Cond.initialized RX0, Cond.code yX0_giveBack cX0_giveBack 3 none]
def wsX10_undo_r2 : List Cond := [Cond.fieldLink RX0 11 "HiredEnemy$Annals" "lines" "[I", Cond.fieldLink RX0 25 "HiredEnemy$Course" "now" "[I", Cond.methodLink RX0 28 arraycopyName, Cond.native arraycopyName, Cond.static arraycopyName, Cond.initialized "java/lang/System", Cond.fieldLink RX0 15 "HiredEnemy$Course" "month" "I"]
def wsX10_undo : List Cond := .code yX10_undo cX10_undo 3 (some .int) :: ((wsX10_undo_r1 ++ wsX10_undo_r2) ++ wsX100 ++ wsX80 ++ wsX40 ++ wsX00 ++ (vx_atS RX10 255 "java/lang/IllegalArgumentException" ["java/lang/RuntimeException", "java/lang/Exception"]).filter goodWord)
def wsX10_sums : List Cond := .code yX10_sums cX10_sums 2 (some .int) :: ([.fieldLink RX10 39 "HiredEnemy" "scene" "LHiredEnemy$Scene;", .fieldLink RX10 66 "HiredEnemy$Scene" "course" "LHiredEnemy$Course;", .fieldLink RX10 111 "HiredEnemy$Course" "now" "[I", .methodLink RX10 107 yX10_within, .static yX10_within, .initialized RX10, .code yX10_within cX10_within 3 (some .boolean), .methodLink RX10 81 yX10_demand, .instanceMethod yX10_demand, .selects RX10 yX10_demand yX10_demand, .code yX10_demand cX10_demand 2 none, .classLink RX10 251 "java/lang/IllegalArgumentException", .initialized "java/lang/IllegalArgumentException", .fieldLink RX10 61 "HiredEnemy" "refused" "[I"] ++ wsX100 ++ wsX80 ++ wsX40 ++ (vx_atS RX10 255 "java/lang/IllegalArgumentException" ["java/lang/RuntimeException", "java/lang/Exception"]).filter goodWord)
def wsX10_corks_r1 : List Cond := [Cond.fieldLink RX10 39 "HiredEnemy" "scene" "LHiredEnemy$Scene;", Cond.fieldLink RX10 66 "HiredEnemy$Scene" "course" "LHiredEnemy$Course;", Cond.fieldLink RX10 114 "HiredEnemy$Course" "month" "I", Cond.fieldLink RX10 143 "HiredEnemy$Scene" "annals" "LHiredEnemy$Annals;", Cond.methodLink RX10 117 yX10_demandWall, Cond.instanceMethod yX10_demandWall, Cond.selects RX10 yX10_demandWall yX10_demandWall, Cond.initialized RX10, Cond.code yX10_demandWall cX10_demandWall 2 none, Cond.classLink RX10 258 "java/lang/IndexOutOfBoundsException", Cond.initialized "java/lang/IndexOutOfBoundsException", Cond.fieldLink RX10 23 "HiredEnemy" "plan" "LHiredEnemy$Plan;", Cond.fieldLink RX10 99 "HiredEnemy$Plan" "walls" "I", Cond.fieldLink RX10 61 "HiredEnemy" "refused" "[I", Cond.methodLink RX10 107 yX10_within, Cond.static yX10_within, Cond.code yX10_within cX10_within 3 (some .boolean), Cond.methodLink RX10 81 yX10_demand, Cond.instanceMethod yX10_demand, Cond.selects RX10 yX10_demand yX10_demand, Cond.code yX10_demand cX10_demand 2 none, Cond.classLink RX10 251 "java/lang/IllegalArgumentException", Cond.initialized "java/lang/IllegalArgumentException", Cond.methodLink RX10 173 yX0_shotAt]
def wsX10_corks_r2 : List Cond := [Cond.instanceMethod yX0_shotAt, Cond.selects RX0 yX0_shotAt yX0_shotAt, Cond.initialized RX0, Cond.code yX0_shotAt cX0_shotAt 3 (some .int), Cond.fieldLink RX0 11 "HiredEnemy$Annals" "lines" "[I"]
def wsX10_corks : List Cond := .code yX10_corks cX10_corks 3 (some .int) :: ((wsX10_corks_r1 ++ wsX10_corks_r2) ++ wsX100 ++ wsX80 ++ wsX40 ++ wsX60 ++ wsX00 ++ (vx_atS RX10 262 "java/lang/IndexOutOfBoundsException" ["java/lang/RuntimeException", "java/lang/Exception"]).filter goodWord ++ (vx_atS RX10 255 "java/lang/IllegalArgumentException" ["java/lang/RuntimeException", "java/lang/Exception"]).filter goodWord)
def wsX10_passTried_r1 : List Cond := [Cond.fieldLink RX10 50 "HiredEnemy" "trial" "LHiredEnemy$Course;", Cond.fieldLink RX10 114 "HiredEnemy$Course" "month" "I", Cond.fieldLink RX10 23 "HiredEnemy" "plan" "LHiredEnemy$Plan;", Cond.methodLink RX10 153 yX10_inForce, Cond.instanceMethod yX10_inForce, Cond.selects RX10 yX10_inForce yX10_inForce, Cond.initialized RX10, Cond.code yX10_inForce cX10_inForce 3 (some (.object "HiredEnemy$Pact")), Cond.fieldLink RX10 111 "HiredEnemy$Course" "now" "[I", Cond.fieldLink RX10 32 "HiredEnemy" "pacts" "[LHiredEnemy$Pact;", Cond.methodLink RX10 107 yX10_within, Cond.static yX10_within, Cond.code yX10_within cX10_within 3 (some .boolean), Cond.methodLink RX10 157 yX4_pass, Cond.instanceMethod yX4_pass, Cond.selects RX4 yX4_pass yX4_pass, Cond.initialized RX4, Cond.code yX4_pass cX4_pass 3 none, Cond.fieldLink RX4 15 "HiredEnemy$Course" "shot" "[I", Cond.fieldLink RX4 9 "HiredEnemy$Course" "now" "[I", Cond.fieldLink RX4 28 "HiredEnemy$Plan" "said" "[I", Cond.fieldLink RX4 57 "HiredEnemy$Pact" "said" "[I", Cond.methodLink RX4 68 Lib.Math.max.name, Cond.static Lib.Math.max.name]
def wsX10_passTried_r2 : List Cond := [Cond.initialized "java/lang/Math", Cond.code Lib.Math.max.name Lib.Math.max.code 2 (some .int), Cond.fieldLink RX4 18 "HiredEnemy$Course" "month" "I", Cond.methodLink RX4 22 yJ7_fill_53178, Cond.static yJ7_fill_53178, Cond.initialized RJ7, Cond.code yJ7_fill_53178 cJ7_fill_53178 4 none, Cond.methodLink RX4 45 yX4_move, Cond.instanceMethod yX4_move, Cond.selects RX4 yX4_move yX4_move, Cond.code yX4_move cX4_move 5 none, Cond.methodLink RX4 81 Lib.Math.min.name, Cond.static Lib.Math.min.name, Cond.code Lib.Math.min.name Lib.Math.min.code 2 (some .int), Cond.methodLink RX4 49 yX4_isPaid, Cond.instanceMethod yX4_isPaid, Cond.selects RX4 yX4_isPaid yX4_isPaid, Cond.code yX4_isPaid cX4_isPaid 3 (some .boolean), Cond.methodLink RX4 84 yX5_payIn, Cond.instanceMethod yX5_payIn, Cond.selects RX5 yX5_payIn yX5_payIn, Cond.initialized RX5, Cond.code yX5_payIn cX5_payIn 3 (some .int), Cond.fieldLink RX5 11 "HiredEnemy$Pact" "said" "[I"]
def wsX10_passTried_r3 : List Cond := [Cond.methodLink RX5 45 yX5_winterPay, Cond.instanceMethod yX5_winterPay, Cond.selects RX5 yX5_winterPay yX5_winterPay, Cond.code yX5_winterPay cX5_winterPay 1 (some .int), Cond.methodLink RX4 53 yX4_shoot, Cond.instanceMethod yX4_shoot, Cond.selects RX4 yX4_shoot yX4_shoot, Cond.code yX4_shoot cX4_shoot 9 none, Cond.fieldLink RX4 33 "HiredEnemy$Plan" "walls" "I", Cond.methodLink RX4 87 yX5_wallDue, Cond.instanceMethod yX5_wallDue, Cond.selects RX5 yX5_wallDue yX5_wallDue, Cond.code yX5_wallDue cX5_wallDue 4 (some .int), Cond.fieldLink RX5 15 "HiredEnemy$Pact" "wallByMonth" "[I", Cond.methodLink RX4 90 yX4_weakest, Cond.instanceMethod yX4_weakest, Cond.selects RX4 yX4_weakest yX4_weakest, Cond.code yX4_weakest cX4_weakest 4 (some .int), Cond.methodLink RX4 93 yX4_breach, Cond.instanceMethod yX4_breach, Cond.selects RX4 yX4_breach yX4_breach, Cond.code yX4_breach cX4_breach 4 none, Cond.fieldLink RX4 36 "HiredEnemy$Plan" "strength" "[I", Cond.methodLink RX4 64 yX4_frighten]
def wsX10_passTried_r4 : List Cond := [Cond.instanceMethod yX4_frighten, Cond.selects RX4 yX4_frighten yX4_frighten, Cond.code yX4_frighten cX4_frighten 2 none, Cond.methodLink RX4 60 yX6_fearAt, Cond.instanceMethod yX6_fearAt, Cond.selects RX6 yX6_fearAt yX6_fearAt, Cond.initialized RX6, Cond.code yX6_fearAt cX6_fearAt 2 (some .int), Cond.fieldLink RX6 18 "HiredEnemy$Plan" "fearByNear" "[I", Cond.methodLink RX4 74 yX4_mend, Cond.instanceMethod yX4_mend, Cond.selects RX4 yX4_mend yX4_mend, Cond.code yX4_mend cX4_mend 5 none, Cond.fieldLink RX4 97 "HiredEnemy$Plan" "mended" "[I", Cond.methodLink RX4 78 yX4_desert, Cond.instanceMethod yX4_desert, Cond.selects RX4 yX4_desert yX4_desert, Cond.code yX4_desert cX4_desert 5 none, Cond.methodLink RX4 100 Lib.Math.abs.name, Cond.static Lib.Math.abs.name, Cond.code Lib.Math.abs.name Lib.Math.abs.code 1 (some .int)]
def wsX10_passTried : List Cond := .code yX10_passTried cX10_passTried 3 none :: ((wsX10_passTried_r1 ++ (wsX10_passTried_r2 ++ (wsX10_passTried_r3 ++ wsX10_passTried_r4))) ++ wsX100 ++ wsX40 ++ wsX60 ++ wsX50)
def wsX10_trySigned_r1 : List Cond := [Cond.fieldLink RX10 50 "HiredEnemy" "trial" "LHiredEnemy$Course;", Cond.fieldLink RX10 39 "HiredEnemy" "scene" "LHiredEnemy$Scene;", Cond.fieldLink RX10 66 "HiredEnemy$Scene" "course" "LHiredEnemy$Course;", Cond.fieldLink RX10 111 "HiredEnemy$Course" "now" "[I", Cond.methodLink RX10 183 yX4_take, Cond.instanceMethod yX4_take, Cond.selects RX4 yX4_take yX4_take, Cond.initialized RX4, Cond.code yX4_take cX4_take 2 none, Cond.fieldLink RX4 9 "HiredEnemy$Course" "now" "[I", Cond.methodLink RX4 39 arraycopyName, Cond.native arraycopyName, Cond.static arraycopyName, Cond.initialized "java/lang/System", Cond.fieldLink RX4 18 "HiredEnemy$Course" "month" "I", Cond.methodLink RX10 140 yX4_pledge, Cond.instanceMethod yX4_pledge, Cond.selects RX4 yX4_pledge yX4_pledge, Cond.code yX4_pledge cX4_pledge 2 none, Cond.methodLink RX10 186 yX10_passTried, Cond.instanceMethod yX10_passTried, Cond.selects RX10 yX10_passTried yX10_passTried, Cond.initialized RX10, Cond.code yX10_passTried cX10_passTried 3 none]
def wsX10_trySigned_r2 : List Cond := [Cond.fieldLink RX10 114 "HiredEnemy$Course" "month" "I", Cond.fieldLink RX10 23 "HiredEnemy" "plan" "LHiredEnemy$Plan;", Cond.methodLink RX10 153 yX10_inForce, Cond.instanceMethod yX10_inForce, Cond.selects RX10 yX10_inForce yX10_inForce, Cond.code yX10_inForce cX10_inForce 3 (some (.object "HiredEnemy$Pact")), Cond.fieldLink RX10 32 "HiredEnemy" "pacts" "[LHiredEnemy$Pact;", Cond.methodLink RX10 107 yX10_within, Cond.static yX10_within, Cond.code yX10_within cX10_within 3 (some .boolean), Cond.methodLink RX10 157 yX4_pass, Cond.instanceMethod yX4_pass, Cond.selects RX4 yX4_pass yX4_pass, Cond.code yX4_pass cX4_pass 3 none, Cond.fieldLink RX4 15 "HiredEnemy$Course" "shot" "[I", Cond.fieldLink RX4 28 "HiredEnemy$Plan" "said" "[I", Cond.fieldLink RX4 57 "HiredEnemy$Pact" "said" "[I", Cond.methodLink RX4 68 Lib.Math.max.name, Cond.static Lib.Math.max.name, Cond.initialized "java/lang/Math", Cond.code Lib.Math.max.name Lib.Math.max.code 2 (some .int), Cond.methodLink RX4 22 yJ7_fill_53178, Cond.static yJ7_fill_53178, Cond.initialized RJ7]
def wsX10_trySigned_r3 : List Cond := [Cond.code yJ7_fill_53178 cJ7_fill_53178 4 none, Cond.methodLink RX4 45 yX4_move, Cond.instanceMethod yX4_move, Cond.selects RX4 yX4_move yX4_move, Cond.code yX4_move cX4_move 5 none, Cond.methodLink RX4 81 Lib.Math.min.name, Cond.static Lib.Math.min.name, Cond.code Lib.Math.min.name Lib.Math.min.code 2 (some .int), Cond.methodLink RX4 49 yX4_isPaid, Cond.instanceMethod yX4_isPaid, Cond.selects RX4 yX4_isPaid yX4_isPaid, Cond.code yX4_isPaid cX4_isPaid 3 (some .boolean), Cond.methodLink RX4 84 yX5_payIn, Cond.instanceMethod yX5_payIn, Cond.selects RX5 yX5_payIn yX5_payIn, Cond.initialized RX5, Cond.code yX5_payIn cX5_payIn 3 (some .int), Cond.fieldLink RX5 11 "HiredEnemy$Pact" "said" "[I", Cond.methodLink RX5 45 yX5_winterPay, Cond.instanceMethod yX5_winterPay, Cond.selects RX5 yX5_winterPay yX5_winterPay, Cond.code yX5_winterPay cX5_winterPay 1 (some .int), Cond.methodLink RX4 53 yX4_shoot, Cond.instanceMethod yX4_shoot]
def wsX10_trySigned_r4 : List Cond := [Cond.selects RX4 yX4_shoot yX4_shoot, Cond.code yX4_shoot cX4_shoot 9 none, Cond.fieldLink RX4 33 "HiredEnemy$Plan" "walls" "I", Cond.methodLink RX4 87 yX5_wallDue, Cond.instanceMethod yX5_wallDue, Cond.selects RX5 yX5_wallDue yX5_wallDue, Cond.code yX5_wallDue cX5_wallDue 4 (some .int), Cond.fieldLink RX5 15 "HiredEnemy$Pact" "wallByMonth" "[I", Cond.methodLink RX4 90 yX4_weakest, Cond.instanceMethod yX4_weakest, Cond.selects RX4 yX4_weakest yX4_weakest, Cond.code yX4_weakest cX4_weakest 4 (some .int), Cond.methodLink RX4 93 yX4_breach, Cond.instanceMethod yX4_breach, Cond.selects RX4 yX4_breach yX4_breach, Cond.code yX4_breach cX4_breach 4 none, Cond.fieldLink RX4 36 "HiredEnemy$Plan" "strength" "[I", Cond.methodLink RX4 64 yX4_frighten, Cond.instanceMethod yX4_frighten, Cond.selects RX4 yX4_frighten yX4_frighten, Cond.code yX4_frighten cX4_frighten 2 none, Cond.methodLink RX4 60 yX6_fearAt, Cond.instanceMethod yX6_fearAt, Cond.selects RX6 yX6_fearAt yX6_fearAt]
def wsX10_trySigned_r5 : List Cond := [Cond.initialized RX6, Cond.code yX6_fearAt cX6_fearAt 2 (some .int), Cond.fieldLink RX6 18 "HiredEnemy$Plan" "fearByNear" "[I", Cond.methodLink RX4 74 yX4_mend, Cond.instanceMethod yX4_mend, Cond.selects RX4 yX4_mend yX4_mend, Cond.code yX4_mend cX4_mend 5 none, Cond.fieldLink RX4 97 "HiredEnemy$Plan" "mended" "[I", Cond.methodLink RX4 78 yX4_desert, Cond.instanceMethod yX4_desert, Cond.selects RX4 yX4_desert yX4_desert, Cond.code yX4_desert cX4_desert 5 none, Cond.methodLink RX4 100 Lib.Math.abs.name, Cond.static Lib.Math.abs.name, Cond.code Lib.Math.abs.name Lib.Math.abs.code 1 (some .int)]
def wsX10_trySigned : List Cond := .code yX10_trySigned cX10_trySigned 3 (some .int) :: ((wsX10_trySigned_r1 ++ (wsX10_trySigned_r2 ++ (wsX10_trySigned_r3 ++ (wsX10_trySigned_r4 ++ wsX10_trySigned_r5)))) ++ wsX100 ++ wsX80 ++ wsX40 ++ wsX60 ++ wsX50)
def wsX10_would_r1 : List Cond := [Cond.fieldLink RX10 50 "HiredEnemy" "trial" "LHiredEnemy$Course;", Cond.fieldLink RX10 111 "HiredEnemy$Course" "now" "[I", Cond.methodLink RX10 137 yX10_demandContractOrNone, Cond.instanceMethod yX10_demandContractOrNone, Cond.selects RX10 yX10_demandContractOrNone yX10_demandContractOrNone, Cond.initialized RX10, Cond.code yX10_demandContractOrNone cX10_demandContractOrNone 2 none, Cond.methodLink RX10 126 yX10_demandContract, Cond.instanceMethod yX10_demandContract, Cond.selects RX10 yX10_demandContract yX10_demandContract, Cond.code yX10_demandContract cX10_demandContract 2 none, Cond.classLink RX10 263 "java/util/NoSuchElementException", Cond.initialized "java/util/NoSuchElementException", Cond.fieldLink RX10 92 "HiredEnemy" "pactsTold" "I", Cond.fieldLink RX10 61 "HiredEnemy" "refused" "[I", Cond.methodLink RX10 107 yX10_within, Cond.static yX10_within, Cond.code yX10_within cX10_within 3 (some .boolean), Cond.methodLink RX10 81 yX10_demand, Cond.instanceMethod yX10_demand, Cond.selects RX10 yX10_demand yX10_demand, Cond.code yX10_demand cX10_demand 2 none, Cond.classLink RX10 251 "java/lang/IllegalArgumentException", Cond.initialized "java/lang/IllegalArgumentException"]
def wsX10_would_r2 : List Cond := [Cond.methodLink RX10 176 yX10_trySigned, Cond.instanceMethod yX10_trySigned, Cond.selects RX10 yX10_trySigned yX10_trySigned, Cond.code yX10_trySigned cX10_trySigned 3 (some .int), Cond.fieldLink RX10 39 "HiredEnemy" "scene" "LHiredEnemy$Scene;", Cond.fieldLink RX10 66 "HiredEnemy$Scene" "course" "LHiredEnemy$Course;", Cond.methodLink RX10 183 yX4_take, Cond.instanceMethod yX4_take, Cond.selects RX4 yX4_take yX4_take, Cond.initialized RX4, Cond.code yX4_take cX4_take 2 none, Cond.fieldLink RX4 9 "HiredEnemy$Course" "now" "[I", Cond.methodLink RX4 39 arraycopyName, Cond.native arraycopyName, Cond.static arraycopyName, Cond.initialized "java/lang/System", Cond.fieldLink RX4 18 "HiredEnemy$Course" "month" "I", Cond.methodLink RX10 140 yX4_pledge, Cond.instanceMethod yX4_pledge, Cond.selects RX4 yX4_pledge yX4_pledge, Cond.code yX4_pledge cX4_pledge 2 none, Cond.methodLink RX10 186 yX10_passTried, Cond.instanceMethod yX10_passTried, Cond.selects RX10 yX10_passTried yX10_passTried]
def wsX10_would_r3 : List Cond := [Cond.code yX10_passTried cX10_passTried 3 none, Cond.fieldLink RX10 114 "HiredEnemy$Course" "month" "I", Cond.fieldLink RX10 23 "HiredEnemy" "plan" "LHiredEnemy$Plan;", Cond.methodLink RX10 153 yX10_inForce, Cond.instanceMethod yX10_inForce, Cond.selects RX10 yX10_inForce yX10_inForce, Cond.code yX10_inForce cX10_inForce 3 (some (.object "HiredEnemy$Pact")), Cond.fieldLink RX10 32 "HiredEnemy" "pacts" "[LHiredEnemy$Pact;", Cond.methodLink RX10 157 yX4_pass, Cond.instanceMethod yX4_pass, Cond.selects RX4 yX4_pass yX4_pass, Cond.code yX4_pass cX4_pass 3 none, Cond.fieldLink RX4 15 "HiredEnemy$Course" "shot" "[I", Cond.fieldLink RX4 28 "HiredEnemy$Plan" "said" "[I", Cond.fieldLink RX4 57 "HiredEnemy$Pact" "said" "[I", Cond.methodLink RX4 68 Lib.Math.max.name, Cond.static Lib.Math.max.name, Cond.initialized "java/lang/Math", Cond.code Lib.Math.max.name Lib.Math.max.code 2 (some .int), Cond.methodLink RX4 22 yJ7_fill_53178, Cond.static yJ7_fill_53178, Cond.initialized RJ7, Cond.code yJ7_fill_53178 cJ7_fill_53178 4 none, Cond.methodLink RX4 45 yX4_move]
def wsX10_would_r4 : List Cond := [Cond.instanceMethod yX4_move, Cond.selects RX4 yX4_move yX4_move, Cond.code yX4_move cX4_move 5 none, Cond.methodLink RX4 81 Lib.Math.min.name, Cond.static Lib.Math.min.name, Cond.code Lib.Math.min.name Lib.Math.min.code 2 (some .int), Cond.methodLink RX4 49 yX4_isPaid, Cond.instanceMethod yX4_isPaid, Cond.selects RX4 yX4_isPaid yX4_isPaid, Cond.code yX4_isPaid cX4_isPaid 3 (some .boolean), Cond.methodLink RX4 84 yX5_payIn, Cond.instanceMethod yX5_payIn, Cond.selects RX5 yX5_payIn yX5_payIn, Cond.initialized RX5, Cond.code yX5_payIn cX5_payIn 3 (some .int), Cond.fieldLink RX5 11 "HiredEnemy$Pact" "said" "[I", Cond.methodLink RX5 45 yX5_winterPay, Cond.instanceMethod yX5_winterPay, Cond.selects RX5 yX5_winterPay yX5_winterPay, Cond.code yX5_winterPay cX5_winterPay 1 (some .int), Cond.methodLink RX4 53 yX4_shoot, Cond.instanceMethod yX4_shoot, Cond.selects RX4 yX4_shoot yX4_shoot, Cond.code yX4_shoot cX4_shoot 9 none]
def wsX10_would_r5 : List Cond := [Cond.fieldLink RX4 33 "HiredEnemy$Plan" "walls" "I", Cond.methodLink RX4 87 yX5_wallDue, Cond.instanceMethod yX5_wallDue, Cond.selects RX5 yX5_wallDue yX5_wallDue, Cond.code yX5_wallDue cX5_wallDue 4 (some .int), Cond.fieldLink RX5 15 "HiredEnemy$Pact" "wallByMonth" "[I", Cond.methodLink RX4 90 yX4_weakest, Cond.instanceMethod yX4_weakest, Cond.selects RX4 yX4_weakest yX4_weakest, Cond.code yX4_weakest cX4_weakest 4 (some .int), Cond.methodLink RX4 93 yX4_breach, Cond.instanceMethod yX4_breach, Cond.selects RX4 yX4_breach yX4_breach, Cond.code yX4_breach cX4_breach 4 none, Cond.fieldLink RX4 36 "HiredEnemy$Plan" "strength" "[I", Cond.methodLink RX4 64 yX4_frighten, Cond.instanceMethod yX4_frighten, Cond.selects RX4 yX4_frighten yX4_frighten, Cond.code yX4_frighten cX4_frighten 2 none, Cond.methodLink RX4 60 yX6_fearAt, Cond.instanceMethod yX6_fearAt, Cond.selects RX6 yX6_fearAt yX6_fearAt, Cond.initialized RX6, Cond.code yX6_fearAt cX6_fearAt 2 (some .int)]
def wsX10_would_r6 : List Cond := [Cond.fieldLink RX6 18 "HiredEnemy$Plan" "fearByNear" "[I", Cond.methodLink RX4 74 yX4_mend, Cond.instanceMethod yX4_mend, Cond.selects RX4 yX4_mend yX4_mend, Cond.code yX4_mend cX4_mend 5 none, Cond.fieldLink RX4 97 "HiredEnemy$Plan" "mended" "[I", Cond.methodLink RX4 78 yX4_desert, Cond.instanceMethod yX4_desert, Cond.selects RX4 yX4_desert yX4_desert, Cond.code yX4_desert cX4_desert 5 none, Cond.methodLink RX4 100 Lib.Math.abs.name, Cond.static Lib.Math.abs.name, Cond.code Lib.Math.abs.name Lib.Math.abs.code 1 (some .int)]
def wsX10_would : List Cond := .code yX10_would cX10_would 4 (some .int) :: ((wsX10_would_r1 ++ (wsX10_would_r2 ++ (wsX10_would_r3 ++ (wsX10_would_r4 ++ (wsX10_would_r5 ++ wsX10_would_r6))))) ++ wsX100 ++ wsX40 ++ wsX80 ++ wsX60 ++ wsX50 ++ (vx_atS RX10 267 "java/util/NoSuchElementException" ["java/lang/RuntimeException", "java/lang/Exception"]).filter goodWord ++ (vx_atS RX10 255 "java/lang/IllegalArgumentException" ["java/lang/RuntimeException", "java/lang/Exception"]).filter goodWord)
def wsX10_best_r1 : List Cond := [Cond.fieldLink RX10 92 "HiredEnemy" "pactsTold" "I", Cond.methodLink RX10 107 yX10_within, Cond.static yX10_within, Cond.initialized RX10, Cond.code yX10_within cX10_within 3 (some .boolean), Cond.methodLink RX10 81 yX10_demand, Cond.instanceMethod yX10_demand, Cond.selects RX10 yX10_demand yX10_demand, Cond.code yX10_demand cX10_demand 2 none, Cond.classLink RX10 251 "java/lang/IllegalArgumentException", Cond.initialized "java/lang/IllegalArgumentException", Cond.fieldLink RX10 61 "HiredEnemy" "refused" "[I", Cond.methodLink RX10 176 yX10_trySigned, Cond.instanceMethod yX10_trySigned, Cond.selects RX10 yX10_trySigned yX10_trySigned, Cond.code yX10_trySigned cX10_trySigned 3 (some .int), Cond.fieldLink RX10 50 "HiredEnemy" "trial" "LHiredEnemy$Course;", Cond.fieldLink RX10 39 "HiredEnemy" "scene" "LHiredEnemy$Scene;", Cond.fieldLink RX10 66 "HiredEnemy$Scene" "course" "LHiredEnemy$Course;", Cond.fieldLink RX10 111 "HiredEnemy$Course" "now" "[I", Cond.methodLink RX10 183 yX4_take, Cond.instanceMethod yX4_take, Cond.selects RX4 yX4_take yX4_take, Cond.initialized RX4]
def wsX10_best_r2 : List Cond := [Cond.code yX4_take cX4_take 2 none, Cond.fieldLink RX4 9 "HiredEnemy$Course" "now" "[I", Cond.methodLink RX4 39 arraycopyName, Cond.native arraycopyName, Cond.static arraycopyName, Cond.initialized "java/lang/System", Cond.fieldLink RX4 18 "HiredEnemy$Course" "month" "I", Cond.methodLink RX10 140 yX4_pledge, Cond.instanceMethod yX4_pledge, Cond.selects RX4 yX4_pledge yX4_pledge, Cond.code yX4_pledge cX4_pledge 2 none, Cond.methodLink RX10 186 yX10_passTried, Cond.instanceMethod yX10_passTried, Cond.selects RX10 yX10_passTried yX10_passTried, Cond.code yX10_passTried cX10_passTried 3 none, Cond.fieldLink RX10 114 "HiredEnemy$Course" "month" "I", Cond.fieldLink RX10 23 "HiredEnemy" "plan" "LHiredEnemy$Plan;", Cond.methodLink RX10 153 yX10_inForce, Cond.instanceMethod yX10_inForce, Cond.selects RX10 yX10_inForce yX10_inForce, Cond.code yX10_inForce cX10_inForce 3 (some (.object "HiredEnemy$Pact")), Cond.fieldLink RX10 32 "HiredEnemy" "pacts" "[LHiredEnemy$Pact;", Cond.methodLink RX10 157 yX4_pass, Cond.instanceMethod yX4_pass]
def wsX10_best_r3 : List Cond := [Cond.selects RX4 yX4_pass yX4_pass, Cond.code yX4_pass cX4_pass 3 none, Cond.fieldLink RX4 15 "HiredEnemy$Course" "shot" "[I", Cond.fieldLink RX4 28 "HiredEnemy$Plan" "said" "[I", Cond.fieldLink RX4 57 "HiredEnemy$Pact" "said" "[I", Cond.methodLink RX4 68 Lib.Math.max.name, Cond.static Lib.Math.max.name, Cond.initialized "java/lang/Math", Cond.code Lib.Math.max.name Lib.Math.max.code 2 (some .int), Cond.methodLink RX4 22 yJ7_fill_53178, Cond.static yJ7_fill_53178, Cond.initialized RJ7, Cond.code yJ7_fill_53178 cJ7_fill_53178 4 none, Cond.methodLink RX4 45 yX4_move, Cond.instanceMethod yX4_move, Cond.selects RX4 yX4_move yX4_move, Cond.code yX4_move cX4_move 5 none, Cond.methodLink RX4 81 Lib.Math.min.name, Cond.static Lib.Math.min.name, Cond.code Lib.Math.min.name Lib.Math.min.code 2 (some .int), Cond.methodLink RX4 49 yX4_isPaid, Cond.instanceMethod yX4_isPaid, Cond.selects RX4 yX4_isPaid yX4_isPaid, Cond.code yX4_isPaid cX4_isPaid 3 (some .boolean)]
def wsX10_best_r4 : List Cond := [Cond.methodLink RX4 84 yX5_payIn, Cond.instanceMethod yX5_payIn, Cond.selects RX5 yX5_payIn yX5_payIn, Cond.initialized RX5, Cond.code yX5_payIn cX5_payIn 3 (some .int), Cond.fieldLink RX5 11 "HiredEnemy$Pact" "said" "[I", Cond.methodLink RX5 45 yX5_winterPay, Cond.instanceMethod yX5_winterPay, Cond.selects RX5 yX5_winterPay yX5_winterPay, Cond.code yX5_winterPay cX5_winterPay 1 (some .int), Cond.methodLink RX4 53 yX4_shoot, Cond.instanceMethod yX4_shoot, Cond.selects RX4 yX4_shoot yX4_shoot, Cond.code yX4_shoot cX4_shoot 9 none, Cond.fieldLink RX4 33 "HiredEnemy$Plan" "walls" "I", Cond.methodLink RX4 87 yX5_wallDue, Cond.instanceMethod yX5_wallDue, Cond.selects RX5 yX5_wallDue yX5_wallDue, Cond.code yX5_wallDue cX5_wallDue 4 (some .int), Cond.fieldLink RX5 15 "HiredEnemy$Pact" "wallByMonth" "[I", Cond.methodLink RX4 90 yX4_weakest, Cond.instanceMethod yX4_weakest, Cond.selects RX4 yX4_weakest yX4_weakest, Cond.code yX4_weakest cX4_weakest 4 (some .int)]
def wsX10_best_r5 : List Cond := [Cond.methodLink RX4 93 yX4_breach, Cond.instanceMethod yX4_breach, Cond.selects RX4 yX4_breach yX4_breach, Cond.code yX4_breach cX4_breach 4 none, Cond.fieldLink RX4 36 "HiredEnemy$Plan" "strength" "[I", Cond.methodLink RX4 64 yX4_frighten, Cond.instanceMethod yX4_frighten, Cond.selects RX4 yX4_frighten yX4_frighten, Cond.code yX4_frighten cX4_frighten 2 none, Cond.methodLink RX4 60 yX6_fearAt, Cond.instanceMethod yX6_fearAt, Cond.selects RX6 yX6_fearAt yX6_fearAt, Cond.initialized RX6, Cond.code yX6_fearAt cX6_fearAt 2 (some .int), Cond.fieldLink RX6 18 "HiredEnemy$Plan" "fearByNear" "[I", Cond.methodLink RX4 74 yX4_mend, Cond.instanceMethod yX4_mend, Cond.selects RX4 yX4_mend yX4_mend, Cond.code yX4_mend cX4_mend 5 none, Cond.fieldLink RX4 97 "HiredEnemy$Plan" "mended" "[I", Cond.methodLink RX4 78 yX4_desert, Cond.instanceMethod yX4_desert, Cond.selects RX4 yX4_desert yX4_desert, Cond.code yX4_desert cX4_desert 5 none]
def wsX10_best_r6 : List Cond := [Cond.methodLink RX4 100 Lib.Math.abs.name, Cond.static Lib.Math.abs.name, Cond.code Lib.Math.abs.name Lib.Math.abs.code 1 (some .int)]
def wsX10_best : List Cond := .code yX10_best cX10_best 7 (some .int) :: ((wsX10_best_r1 ++ (wsX10_best_r2 ++ (wsX10_best_r3 ++ (wsX10_best_r4 ++ (wsX10_best_r5 ++ wsX10_best_r6))))) ++ wsX100 ++ wsX80 ++ wsX40 ++ wsX60 ++ wsX50 ++ (vx_atS RX10 255 "java/lang/IllegalArgumentException" ["java/lang/RuntimeException", "java/lang/Exception"]).filter goodWord)
def wsX10_offer_r1 : List Cond := [Cond.fieldLink RX10 32 "HiredEnemy" "pacts" "[LHiredEnemy$Pact;", Cond.fieldLink RX10 23 "HiredEnemy" "plan" "LHiredEnemy$Plan;", Cond.methodLink RX10 107 yX10_within, Cond.static yX10_within, Cond.initialized RX10, Cond.code yX10_within cX10_within 3 (some .boolean), Cond.methodLink RX10 81 yX10_demand, Cond.instanceMethod yX10_demand, Cond.selects RX10 yX10_demand yX10_demand, Cond.code yX10_demand cX10_demand 2 none, Cond.classLink RX10 251 "java/lang/IllegalArgumentException", Cond.initialized "java/lang/IllegalArgumentException", Cond.fieldLink RX10 61 "HiredEnemy" "refused" "[I", Cond.methodLink RX10 133 yX6_wanted, Cond.instanceMethod yX6_wanted, Cond.selects RX6 yX6_wanted yX6_wanted, Cond.initialized RX6, Cond.code yX6_wanted cX6_wanted 3 (some .int), Cond.fieldLink RX6 15 "HiredEnemy$Plan" "said" "[I", Cond.methodLink RX10 179 yX5_propose, Cond.instanceMethod yX5_propose, Cond.selects RX5 yX5_propose yX5_propose, Cond.initialized RX5, Cond.code yX5_propose cX5_propose 5 none]
def wsX10_offer_r2 : List Cond := [Cond.fieldLink RX5 11 "HiredEnemy$Pact" "said" "[I", Cond.methodLink RX5 28 yX5_clear, Cond.instanceMethod yX5_clear, Cond.selects RX5 yX5_clear yX5_clear, Cond.code yX5_clear cX5_clear 2 none, Cond.fieldLink RX5 18 "HiredEnemy$Pact" "walls" "I", Cond.fieldLink RX5 15 "HiredEnemy$Pact" "wallByMonth" "[I", Cond.methodLink RX5 22 yJ7_fill_53178, Cond.static yJ7_fill_53178, Cond.initialized RJ7, Cond.code yJ7_fill_53178 cJ7_fill_53178 4 none, Cond.methodLink RX10 176 yX10_trySigned, Cond.instanceMethod yX10_trySigned, Cond.selects RX10 yX10_trySigned yX10_trySigned, Cond.code yX10_trySigned cX10_trySigned 3 (some .int), Cond.fieldLink RX10 50 "HiredEnemy" "trial" "LHiredEnemy$Course;", Cond.fieldLink RX10 39 "HiredEnemy" "scene" "LHiredEnemy$Scene;", Cond.fieldLink RX10 66 "HiredEnemy$Scene" "course" "LHiredEnemy$Course;", Cond.fieldLink RX10 111 "HiredEnemy$Course" "now" "[I", Cond.methodLink RX10 183 yX4_take, Cond.instanceMethod yX4_take, Cond.selects RX4 yX4_take yX4_take, Cond.initialized RX4, Cond.code yX4_take cX4_take 2 none]
def wsX10_offer_r3 : List Cond := [Cond.fieldLink RX4 9 "HiredEnemy$Course" "now" "[I", Cond.methodLink RX4 39 arraycopyName, Cond.native arraycopyName, Cond.static arraycopyName, Cond.initialized "java/lang/System", Cond.fieldLink RX4 18 "HiredEnemy$Course" "month" "I", Cond.methodLink RX10 140 yX4_pledge, Cond.instanceMethod yX4_pledge, Cond.selects RX4 yX4_pledge yX4_pledge, Cond.code yX4_pledge cX4_pledge 2 none, Cond.methodLink RX10 186 yX10_passTried, Cond.instanceMethod yX10_passTried, Cond.selects RX10 yX10_passTried yX10_passTried, Cond.code yX10_passTried cX10_passTried 3 none, Cond.fieldLink RX10 114 "HiredEnemy$Course" "month" "I", Cond.methodLink RX10 153 yX10_inForce, Cond.instanceMethod yX10_inForce, Cond.selects RX10 yX10_inForce yX10_inForce, Cond.code yX10_inForce cX10_inForce 3 (some (.object "HiredEnemy$Pact")), Cond.methodLink RX10 157 yX4_pass, Cond.instanceMethod yX4_pass, Cond.selects RX4 yX4_pass yX4_pass, Cond.code yX4_pass cX4_pass 3 none, Cond.fieldLink RX4 15 "HiredEnemy$Course" "shot" "[I"]
def wsX10_offer_r4 : List Cond := [Cond.fieldLink RX4 28 "HiredEnemy$Plan" "said" "[I", Cond.fieldLink RX4 57 "HiredEnemy$Pact" "said" "[I", Cond.methodLink RX4 68 Lib.Math.max.name, Cond.static Lib.Math.max.name, Cond.initialized "java/lang/Math", Cond.code Lib.Math.max.name Lib.Math.max.code 2 (some .int), Cond.methodLink RX4 22 yJ7_fill_53178, Cond.methodLink RX4 45 yX4_move, Cond.instanceMethod yX4_move, Cond.selects RX4 yX4_move yX4_move, Cond.code yX4_move cX4_move 5 none, Cond.methodLink RX4 81 Lib.Math.min.name, Cond.static Lib.Math.min.name, Cond.code Lib.Math.min.name Lib.Math.min.code 2 (some .int), Cond.methodLink RX4 49 yX4_isPaid, Cond.instanceMethod yX4_isPaid, Cond.selects RX4 yX4_isPaid yX4_isPaid, Cond.code yX4_isPaid cX4_isPaid 3 (some .boolean), Cond.methodLink RX4 84 yX5_payIn, Cond.instanceMethod yX5_payIn, Cond.selects RX5 yX5_payIn yX5_payIn, Cond.code yX5_payIn cX5_payIn 3 (some .int), Cond.methodLink RX5 45 yX5_winterPay, Cond.instanceMethod yX5_winterPay]
def wsX10_offer_r5 : List Cond := [Cond.selects RX5 yX5_winterPay yX5_winterPay, Cond.code yX5_winterPay cX5_winterPay 1 (some .int), Cond.methodLink RX4 53 yX4_shoot, Cond.instanceMethod yX4_shoot, Cond.selects RX4 yX4_shoot yX4_shoot, Cond.code yX4_shoot cX4_shoot 9 none, Cond.fieldLink RX4 33 "HiredEnemy$Plan" "walls" "I", Cond.methodLink RX4 87 yX5_wallDue, Cond.instanceMethod yX5_wallDue, Cond.selects RX5 yX5_wallDue yX5_wallDue, Cond.code yX5_wallDue cX5_wallDue 4 (some .int), Cond.methodLink RX4 90 yX4_weakest, Cond.instanceMethod yX4_weakest, Cond.selects RX4 yX4_weakest yX4_weakest, Cond.code yX4_weakest cX4_weakest 4 (some .int), Cond.methodLink RX4 93 yX4_breach, Cond.instanceMethod yX4_breach, Cond.selects RX4 yX4_breach yX4_breach, Cond.code yX4_breach cX4_breach 4 none, Cond.fieldLink RX4 36 "HiredEnemy$Plan" "strength" "[I", Cond.methodLink RX4 64 yX4_frighten, Cond.instanceMethod yX4_frighten, Cond.selects RX4 yX4_frighten yX4_frighten, Cond.code yX4_frighten cX4_frighten 2 none]
def wsX10_offer_r6 : List Cond := [Cond.methodLink RX4 60 yX6_fearAt, Cond.instanceMethod yX6_fearAt, Cond.selects RX6 yX6_fearAt yX6_fearAt, Cond.code yX6_fearAt cX6_fearAt 2 (some .int), Cond.fieldLink RX6 18 "HiredEnemy$Plan" "fearByNear" "[I", Cond.methodLink RX4 74 yX4_mend, Cond.instanceMethod yX4_mend, Cond.selects RX4 yX4_mend yX4_mend, Cond.code yX4_mend cX4_mend 5 none, Cond.fieldLink RX4 97 "HiredEnemy$Plan" "mended" "[I", Cond.methodLink RX4 78 yX4_desert, Cond.instanceMethod yX4_desert, Cond.selects RX4 yX4_desert yX4_desert, Cond.code yX4_desert cX4_desert 5 none, Cond.methodLink RX4 100 Lib.Math.abs.name, Cond.static Lib.Math.abs.name, Cond.code Lib.Math.abs.name Lib.Math.abs.code 1 (some .int)]
def wsX10_offer : List Cond := .code yX10_offer cX10_offer 9 (some .int) :: ((wsX10_offer_r1 ++ (wsX10_offer_r2 ++ (wsX10_offer_r3 ++ (wsX10_offer_r4 ++ (wsX10_offer_r5 ++ wsX10_offer_r6))))) ++ wsX100 ++ wsX60 ++ wsX50 ++ wsX80 ++ wsX40 ++ (vx_atS RX10 255 "java/lang/IllegalArgumentException" ["java/lang/RuntimeException", "java/lang/Exception"]).filter goodWord)
def wsX10_nearest : List Cond := .code yX10_nearest cX10_nearest 4 (some .int) :: ([.fieldLink RX10 23 "HiredEnemy" "plan" "LHiredEnemy$Plan;", .methodLink RX10 107 yX10_within, .static yX10_within, .initialized RX10, .code yX10_within cX10_within 3 (some .boolean), .methodLink RX10 81 yX10_demand, .instanceMethod yX10_demand, .selects RX10 yX10_demand yX10_demand, .code yX10_demand cX10_demand 2 none, .classLink RX10 251 "java/lang/IllegalArgumentException", .initialized "java/lang/IllegalArgumentException", .fieldLink RX10 61 "HiredEnemy" "refused" "[I", .methodLink RX10 133 yX6_wanted, .instanceMethod yX6_wanted, .selects RX6 yX6_wanted yX6_wanted, .initialized RX6, .code yX6_wanted cX6_wanted 3 (some .int), .fieldLink RX6 15 "HiredEnemy$Plan" "said" "[I"] ++ wsX100 ++ wsX60 ++ (vx_atS RX10 255 "java/lang/IllegalArgumentException" ["java/lang/RuntimeException", "java/lang/Exception"]).filter goodWord)
def wsX10_stop_r1 : List Cond := [Cond.fieldLink RX10 50 "HiredEnemy" "trial" "LHiredEnemy$Course;", Cond.fieldLink RX10 39 "HiredEnemy" "scene" "LHiredEnemy$Scene;", Cond.fieldLink RX10 66 "HiredEnemy$Scene" "course" "LHiredEnemy$Course;", Cond.fieldLink RX10 111 "HiredEnemy$Course" "now" "[I", Cond.methodLink RX10 107 yX10_within, Cond.static yX10_within, Cond.initialized RX10, Cond.code yX10_within cX10_within 3 (some .boolean), Cond.methodLink RX10 81 yX10_demand, Cond.instanceMethod yX10_demand, Cond.selects RX10 yX10_demand yX10_demand, Cond.code yX10_demand cX10_demand 2 none, Cond.classLink RX10 251 "java/lang/IllegalArgumentException", Cond.initialized "java/lang/IllegalArgumentException", Cond.fieldLink RX10 61 "HiredEnemy" "refused" "[I", Cond.methodLink RX10 183 yX4_take, Cond.instanceMethod yX4_take, Cond.selects RX4 yX4_take yX4_take, Cond.initialized RX4, Cond.code yX4_take cX4_take 2 none, Cond.fieldLink RX4 9 "HiredEnemy$Course" "now" "[I", Cond.methodLink RX4 39 arraycopyName, Cond.native arraycopyName, Cond.static arraycopyName]
def wsX10_stop_r2 : List Cond := [Cond.initialized "java/lang/System", Cond.fieldLink RX4 18 "HiredEnemy$Course" "month" "I", Cond.methodLink RX10 186 yX10_passTried, Cond.instanceMethod yX10_passTried, Cond.selects RX10 yX10_passTried yX10_passTried, Cond.code yX10_passTried cX10_passTried 3 none, Cond.fieldLink RX10 114 "HiredEnemy$Course" "month" "I", Cond.fieldLink RX10 23 "HiredEnemy" "plan" "LHiredEnemy$Plan;", Cond.methodLink RX10 153 yX10_inForce, Cond.instanceMethod yX10_inForce, Cond.selects RX10 yX10_inForce yX10_inForce, Cond.code yX10_inForce cX10_inForce 3 (some (.object "HiredEnemy$Pact")), Cond.fieldLink RX10 32 "HiredEnemy" "pacts" "[LHiredEnemy$Pact;", Cond.methodLink RX10 157 yX4_pass, Cond.instanceMethod yX4_pass, Cond.selects RX4 yX4_pass yX4_pass, Cond.code yX4_pass cX4_pass 3 none, Cond.fieldLink RX4 15 "HiredEnemy$Course" "shot" "[I", Cond.fieldLink RX4 28 "HiredEnemy$Plan" "said" "[I", Cond.fieldLink RX4 57 "HiredEnemy$Pact" "said" "[I", Cond.methodLink RX4 68 Lib.Math.max.name, Cond.static Lib.Math.max.name, Cond.initialized "java/lang/Math", Cond.code Lib.Math.max.name Lib.Math.max.code 2 (some .int)]
def wsX10_stop_r3 : List Cond := [Cond.methodLink RX4 22 yJ7_fill_53178, Cond.static yJ7_fill_53178, Cond.initialized RJ7, Cond.code yJ7_fill_53178 cJ7_fill_53178 4 none, Cond.methodLink RX4 45 yX4_move, Cond.instanceMethod yX4_move, Cond.selects RX4 yX4_move yX4_move, Cond.code yX4_move cX4_move 5 none, Cond.methodLink RX4 81 Lib.Math.min.name, Cond.static Lib.Math.min.name, Cond.code Lib.Math.min.name Lib.Math.min.code 2 (some .int), Cond.methodLink RX4 49 yX4_isPaid, Cond.instanceMethod yX4_isPaid, Cond.selects RX4 yX4_isPaid yX4_isPaid, Cond.code yX4_isPaid cX4_isPaid 3 (some .boolean), Cond.methodLink RX4 84 yX5_payIn, Cond.instanceMethod yX5_payIn, Cond.selects RX5 yX5_payIn yX5_payIn, Cond.initialized RX5, Cond.code yX5_payIn cX5_payIn 3 (some .int), Cond.fieldLink RX5 11 "HiredEnemy$Pact" "said" "[I", Cond.methodLink RX5 45 yX5_winterPay, Cond.instanceMethod yX5_winterPay, Cond.selects RX5 yX5_winterPay yX5_winterPay]
def wsX10_stop_r4 : List Cond := [Cond.code yX5_winterPay cX5_winterPay 1 (some .int), Cond.methodLink RX4 53 yX4_shoot, Cond.instanceMethod yX4_shoot, Cond.selects RX4 yX4_shoot yX4_shoot, Cond.code yX4_shoot cX4_shoot 9 none, Cond.fieldLink RX4 33 "HiredEnemy$Plan" "walls" "I", Cond.methodLink RX4 87 yX5_wallDue, Cond.instanceMethod yX5_wallDue, Cond.selects RX5 yX5_wallDue yX5_wallDue, Cond.code yX5_wallDue cX5_wallDue 4 (some .int), Cond.fieldLink RX5 15 "HiredEnemy$Pact" "wallByMonth" "[I", Cond.methodLink RX4 90 yX4_weakest, Cond.instanceMethod yX4_weakest, Cond.selects RX4 yX4_weakest yX4_weakest, Cond.code yX4_weakest cX4_weakest 4 (some .int), Cond.methodLink RX4 93 yX4_breach, Cond.instanceMethod yX4_breach, Cond.selects RX4 yX4_breach yX4_breach, Cond.code yX4_breach cX4_breach 4 none, Cond.fieldLink RX4 36 "HiredEnemy$Plan" "strength" "[I", Cond.methodLink RX4 64 yX4_frighten, Cond.instanceMethod yX4_frighten, Cond.selects RX4 yX4_frighten yX4_frighten, Cond.code yX4_frighten cX4_frighten 2 none]
def wsX10_stop_r5 : List Cond := [Cond.methodLink RX4 60 yX6_fearAt, Cond.instanceMethod yX6_fearAt, Cond.selects RX6 yX6_fearAt yX6_fearAt, Cond.initialized RX6, Cond.code yX6_fearAt cX6_fearAt 2 (some .int), Cond.fieldLink RX6 18 "HiredEnemy$Plan" "fearByNear" "[I", Cond.methodLink RX4 74 yX4_mend, Cond.instanceMethod yX4_mend, Cond.selects RX4 yX4_mend yX4_mend, Cond.code yX4_mend cX4_mend 5 none, Cond.fieldLink RX4 97 "HiredEnemy$Plan" "mended" "[I", Cond.methodLink RX4 78 yX4_desert, Cond.instanceMethod yX4_desert, Cond.selects RX4 yX4_desert yX4_desert, Cond.code yX4_desert cX4_desert 5 none, Cond.methodLink RX4 100 Lib.Math.abs.name, Cond.static Lib.Math.abs.name, Cond.code Lib.Math.abs.name Lib.Math.abs.code 1 (some .int), Cond.methodLink RX10 140 yX4_pledge, Cond.instanceMethod yX4_pledge, Cond.selects RX4 yX4_pledge yX4_pledge, Cond.code yX4_pledge cX4_pledge 2 none]
def wsX10_stop : List Cond := .code yX10_stop cX10_stop 6 (some .int) :: ((wsX10_stop_r1 ++ (wsX10_stop_r2 ++ (wsX10_stop_r3 ++ (wsX10_stop_r4 ++ wsX10_stop_r5)))) ++ wsX100 ++ wsX80 ++ wsX40 ++ wsX60 ++ wsX50 ++ (vx_atS RX10 255 "java/lang/IllegalArgumentException" ["java/lang/RuntimeException", "java/lang/Exception"]).filter goodWord)
def wsX10_odds_r1 : List Cond := [Cond.fieldLink RX10 39 "HiredEnemy" "scene" "LHiredEnemy$Scene;", Cond.fieldLink RX10 189 "HiredEnemy$Scene" "belief" "LHiredEnemy$Belief;", Cond.methodLink RX10 107 yX10_within, Cond.static yX10_within, Cond.initialized RX10, Cond.code yX10_within cX10_within 3 (some .boolean), Cond.methodLink RX10 81 yX10_demand, Cond.instanceMethod yX10_demand, Cond.selects RX10 yX10_demand yX10_demand, Cond.code yX10_demand cX10_demand 2 none, Cond.classLink RX10 251 "java/lang/IllegalArgumentException", Cond.initialized "java/lang/IllegalArgumentException", Cond.fieldLink RX10 61 "HiredEnemy" "refused" "[I", Cond.methodLink RX10 193 yX2_start, Cond.instanceMethod yX2_start, Cond.selects RX2 yX2_start yX2_start, Cond.initialized RX2, Cond.code yX2_start cX2_start 3 none, Cond.fieldLink RX2 16 "HiredEnemy$Belief" "firstReal" "I", Cond.fieldLink RX2 20 "HiredEnemy$Belief" "firstHired" "I", Cond.methodLink RX2 30 yX2_forget, Cond.instanceMethod yX2_forget, Cond.selects RX2 yX2_forget yX2_forget, Cond.code yX2_forget cX2_forget 1 none]
def wsX10_odds_r2 : List Cond := [Cond.fieldLink RX2 23 "HiredEnemy$Belief" "real" "J", Cond.fieldLink RX2 27 "HiredEnemy$Belief" "hired" "J", Cond.fieldLink RX2 33 "HiredEnemy$Belief" "things" "I"]
def wsX10_odds : List Cond := .code yX10_odds cX10_odds 3 none :: ((wsX10_odds_r1 ++ wsX10_odds_r2) ++ wsX100 ++ wsX80 ++ wsX20 ++ (vx_atS RX10 255 "java/lang/IllegalArgumentException" ["java/lang/RuntimeException", "java/lang/Exception"]).filter goodWord)
def wsX10_kind : List Cond := .code yX10_kind cX10_kind 4 none :: ([.fieldLink RX10 39 "HiredEnemy" "scene" "LHiredEnemy$Scene;", .fieldLink RX10 189 "HiredEnemy$Scene" "belief" "LHiredEnemy$Belief;", .fieldLink RX10 199 "HiredEnemy$Belief" "ifReal" "[I", .fieldLink RX10 202 "HiredEnemy$Belief" "ifHired" "[I", .methodLink RX10 107 yX10_within, .static yX10_within, .initialized RX10, .code yX10_within cX10_within 3 (some .boolean), .methodLink RX10 81 yX10_demand, .instanceMethod yX10_demand, .selects RX10 yX10_demand yX10_demand, .code yX10_demand cX10_demand 2 none, .classLink RX10 251 "java/lang/IllegalArgumentException", .initialized "java/lang/IllegalArgumentException", .fieldLink RX10 61 "HiredEnemy" "refused" "[I"] ++ wsX100 ++ wsX80 ++ wsX20 ++ (vx_atS RX10 255 "java/lang/IllegalArgumentException" ["java/lang/RuntimeException", "java/lang/Exception"]).filter goodWord)
def wsX10_seen : List Cond := .code yX10_seen cX10_seen 3 (some .int) :: ([.fieldLink RX10 39 "HiredEnemy" "scene" "LHiredEnemy$Scene;", .fieldLink RX10 189 "HiredEnemy$Scene" "belief" "LHiredEnemy$Belief;", .fieldLink RX10 199 "HiredEnemy$Belief" "ifReal" "[I", .fieldLink RX10 202 "HiredEnemy$Belief" "ifHired" "[I", .methodLink RX10 107 yX10_within, .static yX10_within, .initialized RX10, .code yX10_within cX10_within 3 (some .boolean), .methodLink RX10 81 yX10_demand, .instanceMethod yX10_demand, .selects RX10 yX10_demand yX10_demand, .code yX10_demand cX10_demand 2 none, .classLink RX10 251 "java/lang/IllegalArgumentException", .initialized "java/lang/IllegalArgumentException", .fieldLink RX10 61 "HiredEnemy" "refused" "[I", .methodLink RX10 205 yX2_add, .instanceMethod yX2_add, .selects RX2 yX2_add yX2_add, .initialized RX2, .code yX2_add cX2_add 3 (some .int), .fieldLink RX2 33 "HiredEnemy$Belief" "things" "I", .fieldLink RX2 23 "HiredEnemy$Belief" "real" "J", .fieldLink RX2 27 "HiredEnemy$Belief" "hired" "J"] ++ wsX100 ++ wsX80 ++ wsX20 ++ (vx_atS RX10 255 "java/lang/IllegalArgumentException" ["java/lang/RuntimeException", "java/lang/Exception"]).filter goodWord)
def wsX10_spy : List Cond := .code yX10_spy cX10_spy 4 (some .int) :: ([.fieldLink RX10 39 "HiredEnemy" "scene" "LHiredEnemy$Scene;", .fieldLink RX10 189 "HiredEnemy$Scene" "belief" "LHiredEnemy$Belief;", .methodLink RX10 107 yX10_within, .static yX10_within, .initialized RX10, .code yX10_within cX10_within 3 (some .boolean), .methodLink RX10 81 yX10_demand, .instanceMethod yX10_demand, .selects RX10 yX10_demand yX10_demand, .code yX10_demand cX10_demand 2 none, .classLink RX10 251 "java/lang/IllegalArgumentException", .initialized "java/lang/IllegalArgumentException", .fieldLink RX10 61 "HiredEnemy" "refused" "[I", .methodLink RX10 205 yX2_add, .instanceMethod yX2_add, .selects RX2 yX2_add yX2_add, .initialized RX2, .code yX2_add cX2_add 3 (some .int), .fieldLink RX2 33 "HiredEnemy$Belief" "things" "I", .fieldLink RX2 23 "HiredEnemy$Belief" "real" "J", .fieldLink RX2 27 "HiredEnemy$Belief" "hired" "J"] ++ wsX100 ++ wsX80 ++ wsX20 ++ (vx_atS RX10 255 "java/lang/IllegalArgumentException" ["java/lang/RuntimeException", "java/lang/Exception"]).filter goodWord)
def wsX10_believed : List Cond := .code yX10_believed cX10_believed 2 (some .long) :: ([.fieldLink RX10 39 "HiredEnemy" "scene" "LHiredEnemy$Scene;", .fieldLink RX10 189 "HiredEnemy$Scene" "belief" "LHiredEnemy$Belief;", .methodLink RX10 107 yX10_within, .static yX10_within, .initialized RX10, .code yX10_within cX10_within 3 (some .boolean), .methodLink RX10 81 yX10_demand, .instanceMethod yX10_demand, .selects RX10 yX10_demand yX10_demand, .code yX10_demand cX10_demand 2 none, .classLink RX10 251 "java/lang/IllegalArgumentException", .initialized "java/lang/IllegalArgumentException", .fieldLink RX10 61 "HiredEnemy" "refused" "[I", .methodLink RX10 208 yX2_leastTerm, .instanceMethod yX2_leastTerm, .selects RX2 yX2_leastTerm yX2_leastTerm, .initialized RX2, .code yX2_leastTerm cX2_leastTerm 9 (some .long), .fieldLink RX2 23 "HiredEnemy$Belief" "real" "J", .fieldLink RX2 27 "HiredEnemy$Belief" "hired" "J"] ++ wsX100 ++ wsX80 ++ wsX20 ++ (vx_atS RX10 255 "java/lang/IllegalArgumentException" ["java/lang/RuntimeException", "java/lang/Exception"]).filter goodWord)
def wsX10_earnest_r1 : List Cond := [Cond.fieldLink RX10 57 "HiredEnemy" "battle" "LHiredEnemy$Battle;", Cond.fieldLink RX10 23 "HiredEnemy" "plan" "LHiredEnemy$Plan;", Cond.methodLink RX10 107 yX10_within, Cond.static yX10_within, Cond.initialized RX10, Cond.code yX10_within cX10_within 3 (some .boolean), Cond.methodLink RX10 81 yX10_demand, Cond.instanceMethod yX10_demand, Cond.selects RX10 yX10_demand yX10_demand, Cond.code yX10_demand cX10_demand 2 none, Cond.classLink RX10 251 "java/lang/IllegalArgumentException", Cond.initialized "java/lang/IllegalArgumentException", Cond.fieldLink RX10 61 "HiredEnemy" "refused" "[I", Cond.methodLink RX10 212 yX1_prepare, Cond.instanceMethod yX1_prepare, Cond.selects RX1 yX1_prepare yX1_prepare, Cond.initialized RX1, Cond.code yX1_prepare cX1_prepare 3 none, Cond.fieldLink RX1 21 "HiredEnemy$Plan" "walls" "I", Cond.methodLink RX1 27 Lib.Math.min.name, Cond.static Lib.Math.min.name, Cond.initialized "java/lang/Math", Cond.code Lib.Math.min.name Lib.Math.min.code 2 (some .int), Cond.fieldLink RX1 33 "HiredEnemy$Battle" "walls" "I"]
def wsX10_earnest_r2 : List Cond := [Cond.fieldLink RX1 11 "HiredEnemy$Battle" "worth" "[I", Cond.fieldLink RX1 34 "HiredEnemy$Plan" "strength" "[I", Cond.fieldLink RX1 15 "HiredEnemy$Battle" "held" "[I", Cond.methodLink RX10 215 yX1_all, Cond.instanceMethod yX1_all, Cond.selects RX1 yX1_all yX1_all, Cond.code yX1_all cX1_all 1 (some .int), Cond.methodLink RX10 219 yX1_safe, Cond.instanceMethod yX1_safe, Cond.selects RX1 yX1_safe yX1_safe, Cond.code yX1_safe cX1_safe 8 (some .int), Cond.fieldLink RX1 37 "HiredEnemy$Battle" "safeDigits" "I", Cond.methodLink RX1 51 Lib.Math.max.name, Cond.static Lib.Math.max.name, Cond.code Lib.Math.max.name Lib.Math.max.code 2 (some .int), Cond.methodLink RX1 40 yX1_place, Cond.instanceMethod yX1_place, Cond.selects RX1 yX1_place yX1_place, Cond.code yX1_place cX1_place 6 (some .boolean), Cond.fieldLink RX1 18 "HiredEnemy$Battle" "put" "[I", Cond.methodLink RX1 44 yX1_mostFelled, Cond.instanceMethod yX1_mostFelled, Cond.selects RX1 yX1_mostFelled yX1_mostFelled, Cond.code yX1_mostFelled cX1_mostFelled 5 (some .int)]
def wsX10_earnest_r3 : List Cond := [Cond.methodLink RX1 61 yX1_menToFell, Cond.instanceMethod yX1_menToFell, Cond.selects RX1 yX1_menToFell yX1_menToFell, Cond.code yX1_menToFell cX1_menToFell 4 (some .int), Cond.methodLink RX1 64 yX1_worthOf, Cond.instanceMethod yX1_worthOf, Cond.selects RX1 yX1_worthOf yX1_worthOf, Cond.code yX1_worthOf cX1_worthOf 4 (some .int), Cond.methodLink RX1 47 yX1_digits, Cond.instanceMethod yX1_digits, Cond.selects RX1 yX1_digits yX1_digits, Cond.code yX1_digits cX1_digits 3 (some .int), Cond.methodLink RX10 223 yX1_sure, Cond.instanceMethod yX1_sure, Cond.selects RX1 yX1_sure yX1_sure, Cond.code yX1_sure cX1_sure 6 (some .int), Cond.methodLink RX1 54 yX1_all, Cond.methodLink RX1 57 yX1_leastFelled, Cond.instanceMethod yX1_leastFelled, Cond.selects RX1 yX1_leastFelled yX1_leastFelled, Cond.code yX1_leastFelled cX1_leastFelled 4 (some .int), Cond.methodLink RX1 67 yX1_menToHold, Cond.instanceMethod yX1_menToHold, Cond.selects RX1 yX1_menToHold yX1_menToHold]
def wsX10_earnest_r4 : List Cond := [Cond.code yX1_menToHold cX1_menToHold 4 (some .int)]
def wsX10_earnest : List Cond := .code yX10_earnest cX10_earnest 4 (some .int) :: ((wsX10_earnest_r1 ++ (wsX10_earnest_r2 ++ (wsX10_earnest_r3 ++ wsX10_earnest_r4))) ++ wsX100 ++ wsX60 ++ wsX10 ++ (vx_atS RX10 255 "java/lang/IllegalArgumentException" ["java/lang/RuntimeException", "java/lang/Exception"]).filter goodWord)
def wsX10_stands_r1 : List Cond := [Cond.fieldLink RX10 57 "HiredEnemy" "battle" "LHiredEnemy$Battle;", Cond.fieldLink RX10 23 "HiredEnemy" "plan" "LHiredEnemy$Plan;", Cond.fieldLink RX10 226 "HiredEnemy$Battle" "safeDigits" "I", Cond.methodLink RX10 107 yX10_within, Cond.static yX10_within, Cond.initialized RX10, Cond.code yX10_within cX10_within 3 (some .boolean), Cond.methodLink RX10 81 yX10_demand, Cond.instanceMethod yX10_demand, Cond.selects RX10 yX10_demand yX10_demand, Cond.code yX10_demand cX10_demand 2 none, Cond.classLink RX10 251 "java/lang/IllegalArgumentException", Cond.initialized "java/lang/IllegalArgumentException", Cond.fieldLink RX10 61 "HiredEnemy" "refused" "[I", Cond.methodLink RX10 212 yX1_prepare, Cond.instanceMethod yX1_prepare, Cond.selects RX1 yX1_prepare yX1_prepare, Cond.initialized RX1, Cond.code yX1_prepare cX1_prepare 3 none, Cond.fieldLink RX1 21 "HiredEnemy$Plan" "walls" "I", Cond.methodLink RX1 27 Lib.Math.min.name, Cond.static Lib.Math.min.name, Cond.initialized "java/lang/Math", Cond.code Lib.Math.min.name Lib.Math.min.code 2 (some .int)]
def wsX10_stands_r2 : List Cond := [Cond.fieldLink RX1 33 "HiredEnemy$Battle" "walls" "I", Cond.fieldLink RX1 11 "HiredEnemy$Battle" "worth" "[I", Cond.fieldLink RX1 34 "HiredEnemy$Plan" "strength" "[I", Cond.fieldLink RX1 15 "HiredEnemy$Battle" "held" "[I", Cond.methodLink RX10 215 yX1_all, Cond.instanceMethod yX1_all, Cond.selects RX1 yX1_all yX1_all, Cond.code yX1_all cX1_all 1 (some .int), Cond.methodLink RX10 219 yX1_safe, Cond.instanceMethod yX1_safe, Cond.selects RX1 yX1_safe yX1_safe, Cond.code yX1_safe cX1_safe 8 (some .int), Cond.fieldLink RX1 37 "HiredEnemy$Battle" "safeDigits" "I", Cond.methodLink RX1 51 Lib.Math.max.name, Cond.static Lib.Math.max.name, Cond.code Lib.Math.max.name Lib.Math.max.code 2 (some .int), Cond.methodLink RX1 40 yX1_place, Cond.instanceMethod yX1_place, Cond.selects RX1 yX1_place yX1_place, Cond.code yX1_place cX1_place 6 (some .boolean), Cond.fieldLink RX1 18 "HiredEnemy$Battle" "put" "[I", Cond.methodLink RX1 44 yX1_mostFelled, Cond.instanceMethod yX1_mostFelled, Cond.selects RX1 yX1_mostFelled yX1_mostFelled]
def wsX10_stands_r3 : List Cond := [Cond.code yX1_mostFelled cX1_mostFelled 5 (some .int), Cond.methodLink RX1 61 yX1_menToFell, Cond.instanceMethod yX1_menToFell, Cond.selects RX1 yX1_menToFell yX1_menToFell, Cond.code yX1_menToFell cX1_menToFell 4 (some .int), Cond.methodLink RX1 64 yX1_worthOf, Cond.instanceMethod yX1_worthOf, Cond.selects RX1 yX1_worthOf yX1_worthOf, Cond.code yX1_worthOf cX1_worthOf 4 (some .int), Cond.methodLink RX1 47 yX1_digits, Cond.instanceMethod yX1_digits, Cond.selects RX1 yX1_digits yX1_digits, Cond.code yX1_digits cX1_digits 3 (some .int)]
def wsX10_stands : List Cond := .code yX10_stands cX10_stands 3 (some .int) :: ((wsX10_stands_r1 ++ (wsX10_stands_r2 ++ wsX10_stands_r3)) ++ wsX100 ++ wsX10 ++ wsX60 ++ (vx_atS RX10 255 "java/lang/IllegalArgumentException" ["java/lang/RuntimeException", "java/lang/Exception"]).filter goodWord)
def wsX10_show_r1 : List Cond := [Cond.fieldLink RX10 57 "HiredEnemy" "battle" "LHiredEnemy$Battle;", Cond.fieldLink RX10 23 "HiredEnemy" "plan" "LHiredEnemy$Plan;", Cond.fieldLink RX10 229 "HiredEnemy$Battle" "walls" "I", Cond.methodLink RX10 107 yX10_within, Cond.static yX10_within, Cond.initialized RX10, Cond.code yX10_within cX10_within 3 (some .boolean), Cond.methodLink RX10 81 yX10_demand, Cond.instanceMethod yX10_demand, Cond.selects RX10 yX10_demand yX10_demand, Cond.code yX10_demand cX10_demand 2 none, Cond.classLink RX10 251 "java/lang/IllegalArgumentException", Cond.initialized "java/lang/IllegalArgumentException", Cond.fieldLink RX10 61 "HiredEnemy" "refused" "[I", Cond.methodLink RX10 212 yX1_prepare, Cond.instanceMethod yX1_prepare, Cond.selects RX1 yX1_prepare yX1_prepare, Cond.initialized RX1, Cond.code yX1_prepare cX1_prepare 3 none, Cond.fieldLink RX1 21 "HiredEnemy$Plan" "walls" "I", Cond.methodLink RX1 27 Lib.Math.min.name, Cond.static Lib.Math.min.name, Cond.initialized "java/lang/Math", Cond.code Lib.Math.min.name Lib.Math.min.code 2 (some .int)]
def wsX10_show_r2 : List Cond := [Cond.fieldLink RX1 33 "HiredEnemy$Battle" "walls" "I", Cond.fieldLink RX1 11 "HiredEnemy$Battle" "worth" "[I", Cond.fieldLink RX1 34 "HiredEnemy$Plan" "strength" "[I", Cond.fieldLink RX1 15 "HiredEnemy$Battle" "held" "[I", Cond.methodLink RX10 215 yX1_all, Cond.instanceMethod yX1_all, Cond.selects RX1 yX1_all yX1_all, Cond.code yX1_all cX1_all 1 (some .int), Cond.methodLink RX10 219 yX1_safe, Cond.instanceMethod yX1_safe, Cond.selects RX1 yX1_safe yX1_safe, Cond.code yX1_safe cX1_safe 8 (some .int), Cond.fieldLink RX1 37 "HiredEnemy$Battle" "safeDigits" "I", Cond.methodLink RX1 51 Lib.Math.max.name, Cond.static Lib.Math.max.name, Cond.code Lib.Math.max.name Lib.Math.max.code 2 (some .int), Cond.methodLink RX1 40 yX1_place, Cond.instanceMethod yX1_place, Cond.selects RX1 yX1_place yX1_place, Cond.code yX1_place cX1_place 6 (some .boolean), Cond.fieldLink RX1 18 "HiredEnemy$Battle" "put" "[I", Cond.methodLink RX1 44 yX1_mostFelled, Cond.instanceMethod yX1_mostFelled, Cond.selects RX1 yX1_mostFelled yX1_mostFelled]
def wsX10_show_r3 : List Cond := [Cond.code yX1_mostFelled cX1_mostFelled 5 (some .int), Cond.methodLink RX1 61 yX1_menToFell, Cond.instanceMethod yX1_menToFell, Cond.selects RX1 yX1_menToFell yX1_menToFell, Cond.code yX1_menToFell cX1_menToFell 4 (some .int), Cond.methodLink RX1 64 yX1_worthOf, Cond.instanceMethod yX1_worthOf, Cond.selects RX1 yX1_worthOf yX1_worthOf, Cond.code yX1_worthOf cX1_worthOf 4 (some .int), Cond.methodLink RX1 47 yX1_digits, Cond.instanceMethod yX1_digits, Cond.selects RX1 yX1_digits yX1_digits, Cond.code yX1_digits cX1_digits 3 (some .int)]
def wsX10_show : List Cond := .code yX10_show cX10_show 7 (some .int) :: ((wsX10_show_r1 ++ (wsX10_show_r2 ++ wsX10_show_r3)) ++ wsX100 ++ wsX10 ++ wsX60 ++ (vx_atS RX10 255 "java/lang/IllegalArgumentException" ["java/lang/RuntimeException", "java/lang/Exception"]).filter goodWord)
def wsX10_offers : List Cond := .code yX10_offers cX10_offers 4 (some .int) :: ([.fieldLink RX10 39 "HiredEnemy" "scene" "LHiredEnemy$Scene;", .fieldLink RX10 232 "HiredEnemy$Scene" "bids" "LHiredEnemy$Bids;", .methodLink RX10 107 yX10_within, .static yX10_within, .initialized RX10, .code yX10_within cX10_within 3 (some .boolean), .methodLink RX10 81 yX10_demand, .instanceMethod yX10_demand, .selects RX10 yX10_demand yX10_demand, .code yX10_demand cX10_demand 2 none, .classLink RX10 251 "java/lang/IllegalArgumentException", .initialized "java/lang/IllegalArgumentException", .fieldLink RX10 61 "HiredEnemy" "refused" "[I", .methodLink RX10 236 yX3_bid, .instanceMethod yX3_bid, .selects RX3 yX3_bid yX3_bid, .initialized RX3, .code yX3_bid cX3_bid 6 (some .int), .fieldLink RX3 9 "HiredEnemy$Bids" "coins" "[I"] ++ wsX100 ++ wsX80 ++ wsX30 ++ (vx_atS RX10 255 "java/lang/IllegalArgumentException" ["java/lang/RuntimeException", "java/lang/Exception"]).filter goodWord)
def wsX10_most : List Cond := .code yX10_most cX10_most 1 (some .int) :: ([.fieldLink RX10 39 "HiredEnemy" "scene" "LHiredEnemy$Scene;", .fieldLink RX10 232 "HiredEnemy$Scene" "bids" "LHiredEnemy$Bids;", .methodLink RX10 239 yX3_mostCoin, .instanceMethod yX3_mostCoin, .selects RX3 yX3_mostCoin yX3_mostCoin, .initialized RX3, .code yX3_mostCoin cX3_mostCoin 3 (some .int), .fieldLink RX3 13 "HiredEnemy$Bids" "rest" "[I", .methodLink RX3 22 yX3_mostFrom, .instanceMethod yX3_mostFrom, .selects RX3 yX3_mostFrom yX3_mostFrom, .code yX3_mostFrom cX3_mostFrom 5 (some .int), .methodLink RX3 33 Lib.Math.max.name, .static Lib.Math.max.name, .initialized "java/lang/Math", .code Lib.Math.max.name Lib.Math.max.code 2 (some .int), .methodLink RX3 26 yX3_mayFollow, .static yX3_mayFollow, .code yX3_mayFollow cX3_mayFollow 2 (some .boolean), .methodLink RX3 30 yX3_through, .instanceMethod yX3_through, .selects RX3 yX3_through yX3_through, .code yX3_through cX3_through 3 (some .int), .fieldLink RX3 9 "HiredEnemy$Bids" "coins" "[I"] ++ wsX100 ++ wsX80 ++ wsX30)
def wsX10_serves_r1 : List Cond := [Cond.fieldLink RX10 39 "HiredEnemy" "scene" "LHiredEnemy$Scene;", Cond.fieldLink RX10 232 "HiredEnemy$Scene" "bids" "LHiredEnemy$Bids;", Cond.methodLink RX10 107 yX10_within, Cond.static yX10_within, Cond.initialized RX10, Cond.code yX10_within cX10_within 3 (some .boolean), Cond.methodLink RX10 81 yX10_demand, Cond.instanceMethod yX10_demand, Cond.selects RX10 yX10_demand yX10_demand, Cond.code yX10_demand cX10_demand 2 none, Cond.classLink RX10 251 "java/lang/IllegalArgumentException", Cond.initialized "java/lang/IllegalArgumentException", Cond.fieldLink RX10 61 "HiredEnemy" "refused" "[I", Cond.methodLink RX10 242 yX3_served, Cond.instanceMethod yX3_served, Cond.selects RX3 yX3_served yX3_served, Cond.initialized RX3, Cond.code yX3_served cX3_served 4 (some .int), Cond.methodLink RX3 38 yX3_mostCoin, Cond.instanceMethod yX3_mostCoin, Cond.selects RX3 yX3_mostCoin yX3_mostCoin, Cond.code yX3_mostCoin cX3_mostCoin 3 (some .int), Cond.fieldLink RX3 13 "HiredEnemy$Bids" "rest" "[I", Cond.methodLink RX3 22 yX3_mostFrom]
def wsX10_serves_r2 : List Cond := [Cond.instanceMethod yX3_mostFrom, Cond.selects RX3 yX3_mostFrom yX3_mostFrom, Cond.code yX3_mostFrom cX3_mostFrom 5 (some .int), Cond.methodLink RX3 33 Lib.Math.max.name, Cond.static Lib.Math.max.name, Cond.initialized "java/lang/Math", Cond.code Lib.Math.max.name Lib.Math.max.code 2 (some .int), Cond.methodLink RX3 26 yX3_mayFollow, Cond.static yX3_mayFollow, Cond.code yX3_mayFollow cX3_mayFollow 2 (some .boolean), Cond.methodLink RX3 30 yX3_through, Cond.instanceMethod yX3_through, Cond.selects RX3 yX3_through yX3_through, Cond.code yX3_through cX3_through 3 (some .int), Cond.fieldLink RX3 9 "HiredEnemy$Bids" "coins" "[I", Cond.methodLink RX3 42 yX3_firstWay, Cond.instanceMethod yX3_firstWay, Cond.selects RX3 yX3_firstWay yX3_firstWay, Cond.code yX3_firstWay cX3_firstWay 4 (some .int)]
def wsX10_serves : List Cond := .code yX10_serves cX10_serves 2 (some .int) :: ((wsX10_serves_r1 ++ wsX10_serves_r2) ++ wsX100 ++ wsX80 ++ wsX30 ++ (vx_atS RX10 255 "java/lang/IllegalArgumentException" ["java/lang/RuntimeException", "java/lang/Exception"]).filter goodWord)
def wsX10_image_r1 : List Cond := [Cond.fieldLink RX10 95 "HiredEnemy" "imagesKept" "I", Cond.fieldLink RX10 43 "HiredEnemy" "images" "[LHiredEnemy$Scene;", Cond.classLink RX10 36 RX8, Cond.instantiable RX8 4, Cond.initialized RX8, Cond.fieldLink RX10 39 "HiredEnemy" "scene" "LHiredEnemy$Scene;", Cond.instanceMethod yX8_init, Cond.code yX8_init cX8_init 1 none, Cond.methodLink RX8 1 objectInit, Cond.instanceMethod objectInit, Cond.code objectInit ⟨#[0xb1]⟩ 1 none, Cond.classLink RX8 7 RX4, Cond.instantiable RX4 3, Cond.initialized RX4, Cond.fieldLink RX8 10 "HiredEnemy$Scene" "course" "LHiredEnemy$Course;", Cond.classLink RX8 16 RX0, Cond.instantiable RX0 1, Cond.initialized RX0, Cond.fieldLink RX8 19 "HiredEnemy$Scene" "annals" "LHiredEnemy$Annals;", Cond.classLink RX8 23 RX2, Cond.instantiable RX2 7, Cond.initialized RX2, Cond.fieldLink RX8 26 "HiredEnemy$Scene" "belief" "LHiredEnemy$Belief;", Cond.classLink RX8 30 RX3]
def wsX10_image_r2 : List Cond := [Cond.instantiable RX3 2, Cond.initialized RX3, Cond.fieldLink RX8 33 "HiredEnemy$Scene" "bids" "LHiredEnemy$Bids;", Cond.instanceMethod yX4_init, Cond.code yX4_init cX4_init 1 none, Cond.methodLink RX4 3 objectInit, Cond.arrayClass .int, Cond.fieldLink RX4 9 "HiredEnemy$Course" "now" "[I", Cond.fieldLink RX4 15 "HiredEnemy$Course" "shot" "[I", Cond.instanceMethod yX0_init, Cond.code yX0_init cX0_init 1 none, Cond.methodLink RX0 3 objectInit, Cond.fieldLink RX0 11 "HiredEnemy$Annals" "lines" "[I", Cond.instanceMethod yX2_init, Cond.code yX2_init cX2_init 1 none, Cond.methodLink RX2 1 objectInit, Cond.fieldLink RX2 7 "HiredEnemy$Belief" "ifReal" "[I", Cond.fieldLink RX2 13 "HiredEnemy$Belief" "ifHired" "[I", Cond.fieldLink RX2 16 "HiredEnemy$Belief" "firstReal" "I", Cond.fieldLink RX2 20 "HiredEnemy$Belief" "firstHired" "I", Cond.fieldLink RX2 23 "HiredEnemy$Belief" "real" "J", Cond.fieldLink RX2 27 "HiredEnemy$Belief" "hired" "J", Cond.instanceMethod yX3_init, Cond.code yX3_init cX3_init 1 none]
def wsX10_image_r3 : List Cond := [Cond.methodLink RX3 1 objectInit, Cond.fieldLink RX3 9 "HiredEnemy$Bids" "coins" "[I", Cond.fieldLink RX3 13 "HiredEnemy$Bids" "rest" "[I", Cond.methodLink RX10 245 yX8_take, Cond.instanceMethod yX8_take, Cond.selects RX8 yX8_take yX8_take, Cond.code yX8_take cX8_take 2 none, Cond.fieldLink RX8 51 "HiredEnemy$Course" "month" "I", Cond.methodLink RX8 47 yX4_take, Cond.instanceMethod yX4_take, Cond.selects RX4 yX4_take yX4_take, Cond.code yX4_take cX4_take 2 none, Cond.methodLink RX4 39 arraycopyName, Cond.native arraycopyName, Cond.static arraycopyName, Cond.initialized "java/lang/System", Cond.fieldLink RX4 18 "HiredEnemy$Course" "month" "I", Cond.methodLink RX8 55 yX0_take, Cond.instanceMethod yX0_take, Cond.selects RX0 yX0_take yX0_take, Cond.code yX0_take cX0_take 3 none, Cond.methodLink RX0 28 arraycopyName, Cond.static yX10_within, Cond.initialized RX10]
def wsX10_image_r4 : List Cond := [Cond.code yX10_within cX10_within 3 (some .boolean), Cond.methodLink RX8 58 yX2_take, Cond.instanceMethod yX2_take, Cond.selects RX2 yX2_take yX2_take, Cond.code yX2_take cX2_take 2 none, Cond.methodLink RX2 36 arraycopyName, Cond.fieldLink RX2 33 "HiredEnemy$Belief" "things" "I", Cond.methodLink RX8 61 yX3_take, Cond.instanceMethod yX3_take, Cond.selects RX3 yX3_take yX3_take, Cond.code yX3_take cX3_take 2 none, Cond.methodLink RX3 45 arraycopyName]
def wsX10_image : List Cond := .code yX10_image cX10_image 1 (some .int) :: ((wsX10_image_r1 ++ (wsX10_image_r2 ++ (wsX10_image_r3 ++ wsX10_image_r4))) ++ wsX100 ++ wsX80 ++ wsX40 ++ wsX00 ++ wsX20 ++ wsX30)
def wsX10_restore_r1 : List Cond := [Cond.fieldLink RX10 95 "HiredEnemy" "imagesKept" "I", Cond.fieldLink RX10 43 "HiredEnemy" "images" "[LHiredEnemy$Scene;", Cond.fieldLink RX10 39 "HiredEnemy" "scene" "LHiredEnemy$Scene;", Cond.methodLink RX10 245 yX8_take, Cond.instanceMethod yX8_take, Cond.selects RX8 yX8_take yX8_take, Cond.initialized RX8, Cond.code yX8_take cX8_take 2 none, Cond.fieldLink RX8 10 "HiredEnemy$Scene" "course" "LHiredEnemy$Course;", Cond.fieldLink RX8 19 "HiredEnemy$Scene" "annals" "LHiredEnemy$Annals;", Cond.fieldLink RX8 51 "HiredEnemy$Course" "month" "I", Cond.fieldLink RX8 26 "HiredEnemy$Scene" "belief" "LHiredEnemy$Belief;", Cond.fieldLink RX8 33 "HiredEnemy$Scene" "bids" "LHiredEnemy$Bids;", Cond.methodLink RX8 47 yX4_take, Cond.instanceMethod yX4_take, Cond.selects RX4 yX4_take yX4_take, Cond.initialized RX4, Cond.code yX4_take cX4_take 2 none, Cond.fieldLink RX4 9 "HiredEnemy$Course" "now" "[I", Cond.methodLink RX4 39 arraycopyName, Cond.native arraycopyName, Cond.static arraycopyName, Cond.initialized "java/lang/System", Cond.fieldLink RX4 18 "HiredEnemy$Course" "month" "I"]
def wsX10_restore_r2 : List Cond := [Cond.methodLink RX8 55 yX0_take, Cond.instanceMethod yX0_take, Cond.selects RX0 yX0_take yX0_take, Cond.initialized RX0, Cond.code yX0_take cX0_take 3 none, Cond.fieldLink RX0 11 "HiredEnemy$Annals" "lines" "[I", Cond.methodLink RX0 28 arraycopyName, Cond.static yX10_within, Cond.initialized RX10, Cond.code yX10_within cX10_within 3 (some .boolean), Cond.methodLink RX8 58 yX2_take, Cond.instanceMethod yX2_take, Cond.selects RX2 yX2_take yX2_take, Cond.initialized RX2, Cond.code yX2_take cX2_take 2 none, Cond.fieldLink RX2 7 "HiredEnemy$Belief" "ifReal" "[I", Cond.methodLink RX2 36 arraycopyName, Cond.fieldLink RX2 13 "HiredEnemy$Belief" "ifHired" "[I", Cond.fieldLink RX2 16 "HiredEnemy$Belief" "firstReal" "I", Cond.fieldLink RX2 20 "HiredEnemy$Belief" "firstHired" "I", Cond.fieldLink RX2 23 "HiredEnemy$Belief" "real" "J", Cond.fieldLink RX2 27 "HiredEnemy$Belief" "hired" "J", Cond.fieldLink RX2 33 "HiredEnemy$Belief" "things" "I", Cond.methodLink RX8 61 yX3_take]
def wsX10_restore_r3 : List Cond := [Cond.instanceMethod yX3_take, Cond.selects RX3 yX3_take yX3_take, Cond.initialized RX3, Cond.code yX3_take cX3_take 2 none, Cond.fieldLink RX3 9 "HiredEnemy$Bids" "coins" "[I", Cond.methodLink RX3 45 arraycopyName]
def wsX10_restore : List Cond := .code yX10_restore cX10_restore 1 (some .int) :: ((wsX10_restore_r1 ++ (wsX10_restore_r2 ++ wsX10_restore_r3)) ++ wsX100 ++ wsX80 ++ wsX40 ++ wsX00 ++ wsX20 ++ wsX30)
def wsX10_status : List Cond := .code yX10_status cX10_status 2 (some .int) :: ([.fieldLink RX10 61 "HiredEnemy" "refused" "[I", .methodLink RX10 107 yX10_within, .static yX10_within, .initialized RX10, .code yX10_within cX10_within 3 (some .boolean)] ++ wsX100)
def wsX10_count : List Cond := .code yX10_count cX10_count 2 (some .int) :: ([.fieldLink RX10 95 "HiredEnemy" "imagesKept" "I", .fieldLink RX10 73 "HiredEnemy" "taped" "I", .fieldLink RX10 39 "HiredEnemy" "scene" "LHiredEnemy$Scene;", .fieldLink RX10 189 "HiredEnemy$Scene" "belief" "LHiredEnemy$Belief;", .fieldLink RX10 248 "HiredEnemy$Belief" "things" "I"] ++ wsX100 ++ wsX80 ++ wsX20)
def wsX11_tellsNothing : List Cond := .code yX11_tellsNothing cX11_tellsNothing 3 none :: ([.arrayClass .int, .fieldLink RX11 20 "HiredEnemyModel" "readTold" "[I"] ++ wsX110)
def wsX11_stands0 : List Cond := .code yX11_stands0 cX11_stands0 3 none :: ([.fieldLink RX11 23 "HiredEnemyModel" "told" "[I", .fieldLink RX11 20 "HiredEnemyModel" "readTold" "[I", .fieldLink RX11 46 "HiredEnemyModel" "s" "[I", .fieldLink RX11 31 "HiredEnemyModel" "wall" "[[I", .fieldLink RX11 28 "HiredEnemyModel" "readWall" "[[I", .fieldLink RX11 55 "HiredEnemyModel" "shot" "[[I", .fieldLink RX11 64 "HiredEnemyModel" "kind" "[[I", .fieldLink RX11 70 "HiredEnemyModel" "offered" "[[I", .fieldLink RX11 162 "HiredEnemyModel" "contracts" "I", .fieldLink RX11 58 "HiredEnemyModel" "oddsA" "I", .fieldLink RX11 61 "HiredEnemyModel" "oddsB" "I", .fieldLink RX11 165 "HiredEnemyModel" "things" "I", .fieldLink RX11 168 "HiredEnemyModel" "images" "I"] ++ wsX110)
def wsX11_init_r1 : List Cond := [Cond.methodLink RX11 1 objectInit, Cond.instanceMethod objectInit, Cond.code objectInit ⟨#[0xb1]⟩ 1 none, Cond.fieldLink RX11 9 "HiredEnemyModel" "place" "I", Cond.arrayClass .int, Cond.fieldLink RX11 13 "HiredEnemyModel" "fed" "[I", Cond.fieldLink RX11 17 "HiredEnemyModel" "refused" "[I", Cond.fieldLink RX11 20 "HiredEnemyModel" "readTold" "[I", Cond.fieldLink RX11 23 "HiredEnemyModel" "told" "[I", Cond.classLink RX11 26 "[[I", Cond.fieldLink RX11 28 "HiredEnemyModel" "readWall" "[[I", Cond.fieldLink RX11 31 "HiredEnemyModel" "wall" "[[I", Cond.fieldLink RX11 34 "HiredEnemyModel" "readContract" "[I", Cond.fieldLink RX11 37 "HiredEnemyModel" "readBreach" "[I", Cond.fieldLink RX11 40 "HiredEnemyModel" "contract" "[[I", Cond.fieldLink RX11 43 "HiredEnemyModel" "breach" "[[I", Cond.fieldLink RX11 46 "HiredEnemyModel" "s" "[I", Cond.fieldLink RX11 49 "HiredEnemyModel" "aside" "[I", Cond.fieldLink RX11 52 "HiredEnemyModel" "gone" "[[I", Cond.fieldLink RX11 55 "HiredEnemyModel" "shot" "[[I", Cond.fieldLink RX11 58 "HiredEnemyModel" "oddsA" "I", Cond.fieldLink RX11 61 "HiredEnemyModel" "oddsB" "I", Cond.fieldLink RX11 64 "HiredEnemyModel" "kind" "[[I", Cond.fieldLink RX11 67 "HiredEnemyModel" "thing" "[[I"]
def wsX11_init_r2 : List Cond := [Cond.fieldLink RX11 70 "HiredEnemyModel" "offered" "[[I", Cond.fieldLink RX11 73 "HiredEnemyModel" "kept" "[[I", Cond.fieldLink RX11 76 "HiredEnemyModel" "rest" "[[I", Cond.methodLink RX11 79 yX11_tellsNothing, Cond.instanceMethod yX11_tellsNothing, Cond.selects RX11 yX11_tellsNothing yX11_tellsNothing, Cond.initialized RX11, Cond.code yX11_tellsNothing cX11_tellsNothing 3 none, Cond.methodLink RX11 82 yX11_stands0, Cond.instanceMethod yX11_stands0, Cond.selects RX11 yX11_stands0 yX11_stands0, Cond.code yX11_stands0 cX11_stands0 3 none, Cond.fieldLink RX11 162 "HiredEnemyModel" "contracts" "I", Cond.fieldLink RX11 165 "HiredEnemyModel" "things" "I", Cond.fieldLink RX11 168 "HiredEnemyModel" "images" "I"]
def wsX11_init : List Cond := .code yX11_init cX11_init 1 none :: ((wsX11_init_r1 ++ wsX11_init_r2) ++ wsX110)
def wsX11_thrown : List Cond := .code yX11_thrown cX11_thrown 1 (some .int) :: ([.fieldLink RX11 85 "HiredEnemyModel" "thrown" "I"] ++ wsX110)
def wsX11_bad : List Cond := .code yX11_bad cX11_bad 4 (some .boolean) :: ([.fieldLink RX11 85 "HiredEnemyModel" "thrown" "I", .fieldLink RX11 17 "HiredEnemyModel" "refused" "[I"] ++ wsX110)
def wsX11_in : List Cond := .code yX11_in cX11_in 3 (some .boolean) :: ([])
def wsX11_feed : List Cond := .code yX11_feed cX11_feed 8 (some .int) :: ([.fieldLink RX11 85 "HiredEnemyModel" "thrown" "I", .fieldLink RX11 88 "HiredEnemyModel" "tape" "I", .fieldLink RX11 13 "HiredEnemyModel" "fed" "[I"] ++ wsX110)
def wsX11_byteAt : List Cond := .code yX11_byteAt cX11_byteAt 2 (some .int) :: ([.fieldLink RX11 91 "HiredEnemyModel" "size" "I", .fieldLink RX11 13 "HiredEnemyModel" "fed" "[I"] ++ wsX110)
def wsX11_blanks : List Cond := .code yX11_blanks cX11_blanks 1 none :: ([.fieldLink RX11 94 "HiredEnemyModel" "at" "I", .methodLink RX11 97 yX11_byteAt, .instanceMethod yX11_byteAt, .selects RX11 yX11_byteAt yX11_byteAt, .initialized RX11, .code yX11_byteAt cX11_byteAt 2 (some .int), .fieldLink RX11 91 "HiredEnemyModel" "size" "I", .fieldLink RX11 13 "HiredEnemyModel" "fed" "[I"] ++ wsX110)
def wsX11_wrong : List Cond := .code yX11_wrong cX11_wrong 3 none :: ([.fieldLink RX11 101 "HiredEnemyModel" "fault" "I", .fieldLink RX11 104 "HiredEnemyModel" "faultAt" "I"] ++ wsX110)
def wsX11_isDigit : List Cond := .code yX11_isDigit cX11_isDigit 1 (some .boolean) :: ([])
def wsX11_number_r1 : List Cond := [Cond.fieldLink RX11 101 "HiredEnemyModel" "fault" "I", Cond.fieldLink RX11 94 "HiredEnemyModel" "at" "I", Cond.constant RX11 118 (100000), Cond.methodLink RX11 107 yX11_blanks, Cond.instanceMethod yX11_blanks, Cond.selects RX11 yX11_blanks yX11_blanks, Cond.initialized RX11, Cond.code yX11_blanks cX11_blanks 1 none, Cond.methodLink RX11 97 yX11_byteAt, Cond.instanceMethod yX11_byteAt, Cond.selects RX11 yX11_byteAt yX11_byteAt, Cond.code yX11_byteAt cX11_byteAt 2 (some .int), Cond.fieldLink RX11 91 "HiredEnemyModel" "size" "I", Cond.fieldLink RX11 13 "HiredEnemyModel" "fed" "[I", Cond.methodLink RX11 110 yX11_isDigit, Cond.static yX11_isDigit, Cond.code yX11_isDigit cX11_isDigit 1 (some .boolean), Cond.methodLink RX11 114 yX11_wrong, Cond.instanceMethod yX11_wrong, Cond.selects RX11 yX11_wrong yX11_wrong, Cond.code yX11_wrong cX11_wrong 3 none, Cond.fieldLink RX11 104 "HiredEnemyModel" "faultAt" "I", Cond.methodLink RX11 119 yX11_in, Cond.static yX11_in]
def wsX11_number_r2 : List Cond := [Cond.code yX11_in cX11_in 3 (some .boolean)]
def wsX11_number : List Cond := .code yX11_number cX11_number 5 (some .int) :: ((wsX11_number_r1 ++ wsX11_number_r2) ++ wsX110)
def wsX11_wordHere : List Cond := .code yX11_wordHere cX11_wordHere 3 (some .int) :: ([.fieldLink RX11 94 "HiredEnemyModel" "at" "I", .methodLink RX11 107 yX11_blanks, .instanceMethod yX11_blanks, .selects RX11 yX11_blanks yX11_blanks, .initialized RX11, .code yX11_blanks cX11_blanks 1 none, .methodLink RX11 97 yX11_byteAt, .instanceMethod yX11_byteAt, .selects RX11 yX11_byteAt yX11_byteAt, .code yX11_byteAt cX11_byteAt 2 (some .int), .fieldLink RX11 91 "HiredEnemyModel" "size" "I", .fieldLink RX11 13 "HiredEnemyModel" "fed" "[I"] ++ wsX110)
def wsX11_six : List Cond := .code yX11_six cX11_six 7 (some .int) :: ([])
def wsX11_isWord : List Cond := .code yX11_isWord cX11_isWord 7 (some .boolean) :: ([.fieldLink RX11 101 "HiredEnemyModel" "fault" "I", .methodLink RX11 123 yX11_wordHere, .instanceMethod yX11_wordHere, .selects RX11 yX11_wordHere yX11_wordHere, .initialized RX11, .code yX11_wordHere cX11_wordHere 3 (some .int), .fieldLink RX11 94 "HiredEnemyModel" "at" "I", .methodLink RX11 107 yX11_blanks, .instanceMethod yX11_blanks, .selects RX11 yX11_blanks yX11_blanks, .code yX11_blanks cX11_blanks 1 none, .methodLink RX11 97 yX11_byteAt, .instanceMethod yX11_byteAt, .selects RX11 yX11_byteAt yX11_byteAt, .code yX11_byteAt cX11_byteAt 2 (some .int), .fieldLink RX11 91 "HiredEnemyModel" "size" "I", .fieldLink RX11 13 "HiredEnemyModel" "fed" "[I", .methodLink RX11 127 yX11_six, .static yX11_six, .code yX11_six cX11_six 7 (some .int)] ++ wsX110)
def wsX11_skipWord : List Cond := .code yX11_skipWord cX11_skipWord 1 none :: ([.fieldLink RX11 94 "HiredEnemyModel" "at" "I", .methodLink RX11 97 yX11_byteAt, .instanceMethod yX11_byteAt, .selects RX11 yX11_byteAt yX11_byteAt, .initialized RX11, .code yX11_byteAt cX11_byteAt 2 (some .int), .fieldLink RX11 91 "HiredEnemyModel" "size" "I", .fieldLink RX11 13 "HiredEnemyModel" "fed" "[I"] ++ wsX110)
def wsX11_closes : List Cond := .code yX11_closes cX11_closes 1 none :: ([.fieldLink RX11 101 "HiredEnemyModel" "fault" "I", .fieldLink RX11 94 "HiredEnemyModel" "at" "I", .methodLink RX11 107 yX11_blanks, .instanceMethod yX11_blanks, .selects RX11 yX11_blanks yX11_blanks, .initialized RX11, .code yX11_blanks cX11_blanks 1 none, .methodLink RX11 97 yX11_byteAt, .instanceMethod yX11_byteAt, .selects RX11 yX11_byteAt yX11_byteAt, .code yX11_byteAt cX11_byteAt 2 (some .int), .fieldLink RX11 91 "HiredEnemyModel" "size" "I", .fieldLink RX11 13 "HiredEnemyModel" "fed" "[I", .methodLink RX11 114 yX11_wrong, .instanceMethod yX11_wrong, .selects RX11 yX11_wrong yX11_wrong, .code yX11_wrong cX11_wrong 3 none, .fieldLink RX11 104 "HiredEnemyModel" "faultAt" "I"] ++ wsX110)
def wsX11_starts : List Cond := .code yX11_starts cX11_starts 2 none :: ([.fieldLink RX11 88 "HiredEnemyModel" "tape" "I", .fieldLink RX11 91 "HiredEnemyModel" "size" "I", .fieldLink RX11 94 "HiredEnemyModel" "at" "I", .fieldLink RX11 101 "HiredEnemyModel" "fault" "I", .fieldLink RX11 104 "HiredEnemyModel" "faultAt" "I", .fieldLink RX11 131 "HiredEnemyModel" "clauses" "I", .methodLink RX11 107 yX11_blanks, .instanceMethod yX11_blanks, .selects RX11 yX11_blanks yX11_blanks, .initialized RX11, .code yX11_blanks cX11_blanks 1 none, .methodLink RX11 97 yX11_byteAt, .instanceMethod yX11_byteAt, .selects RX11 yX11_byteAt yX11_byteAt, .code yX11_byteAt cX11_byteAt 2 (some .int), .fieldLink RX11 13 "HiredEnemyModel" "fed" "[I"] ++ wsX110)
def wsX11_kindHere : List Cond := .code yX11_kindHere cX11_kindHere 1 (some .int) :: ([.methodLink RX11 134 yX11_isWord, .instanceMethod yX11_isWord, .selects RX11 yX11_isWord yX11_isWord, .initialized RX11, .code yX11_isWord cX11_isWord 7 (some .boolean), .fieldLink RX11 101 "HiredEnemyModel" "fault" "I", .methodLink RX11 123 yX11_wordHere, .instanceMethod yX11_wordHere, .selects RX11 yX11_wordHere yX11_wordHere, .code yX11_wordHere cX11_wordHere 3 (some .int), .fieldLink RX11 94 "HiredEnemyModel" "at" "I", .methodLink RX11 107 yX11_blanks, .instanceMethod yX11_blanks, .selects RX11 yX11_blanks yX11_blanks, .code yX11_blanks cX11_blanks 1 none, .methodLink RX11 97 yX11_byteAt, .instanceMethod yX11_byteAt, .selects RX11 yX11_byteAt yX11_byteAt, .code yX11_byteAt cX11_byteAt 2 (some .int), .fieldLink RX11 91 "HiredEnemyModel" "size" "I", .fieldLink RX11 13 "HiredEnemyModel" "fed" "[I", .methodLink RX11 127 yX11_six, .static yX11_six, .code yX11_six cX11_six 7 (some .int)] ++ wsX110)
def wsX11_clause_r1 : List Cond := [Cond.fieldLink RX11 94 "HiredEnemyModel" "at" "I", Cond.fieldLink RX11 131 "HiredEnemyModel" "clauses" "I", Cond.fieldLink RX11 20 "HiredEnemyModel" "readTold" "[I", Cond.fieldLink RX11 101 "HiredEnemyModel" "fault" "I", Cond.fieldLink RX11 28 "HiredEnemyModel" "readWall" "[[I", Cond.methodLink RX11 138 yX11_kindHere, Cond.instanceMethod yX11_kindHere, Cond.selects RX11 yX11_kindHere yX11_kindHere, Cond.initialized RX11, Cond.code yX11_kindHere cX11_kindHere 1 (some .int), Cond.methodLink RX11 134 yX11_isWord, Cond.instanceMethod yX11_isWord, Cond.selects RX11 yX11_isWord yX11_isWord, Cond.code yX11_isWord cX11_isWord 7 (some .boolean), Cond.methodLink RX11 123 yX11_wordHere, Cond.instanceMethod yX11_wordHere, Cond.selects RX11 yX11_wordHere yX11_wordHere, Cond.code yX11_wordHere cX11_wordHere 3 (some .int), Cond.methodLink RX11 107 yX11_blanks, Cond.instanceMethod yX11_blanks, Cond.selects RX11 yX11_blanks yX11_blanks, Cond.code yX11_blanks cX11_blanks 1 none, Cond.methodLink RX11 97 yX11_byteAt, Cond.instanceMethod yX11_byteAt]
def wsX11_clause_r2 : List Cond := [Cond.selects RX11 yX11_byteAt yX11_byteAt, Cond.code yX11_byteAt cX11_byteAt 2 (some .int), Cond.fieldLink RX11 91 "HiredEnemyModel" "size" "I", Cond.fieldLink RX11 13 "HiredEnemyModel" "fed" "[I", Cond.methodLink RX11 127 yX11_six, Cond.static yX11_six, Cond.code yX11_six cX11_six 7 (some .int), Cond.methodLink RX11 114 yX11_wrong, Cond.instanceMethod yX11_wrong, Cond.selects RX11 yX11_wrong yX11_wrong, Cond.code yX11_wrong cX11_wrong 3 none, Cond.fieldLink RX11 104 "HiredEnemyModel" "faultAt" "I", Cond.methodLink RX11 141 yX11_skipWord, Cond.instanceMethod yX11_skipWord, Cond.selects RX11 yX11_skipWord yX11_skipWord, Cond.code yX11_skipWord cX11_skipWord 1 none, Cond.methodLink RX11 144 yX11_number, Cond.instanceMethod yX11_number, Cond.selects RX11 yX11_number yX11_number, Cond.code yX11_number cX11_number 5 (some .int), Cond.constant RX11 118 (100000), Cond.methodLink RX11 110 yX11_isDigit, Cond.static yX11_isDigit, Cond.code yX11_isDigit cX11_isDigit 1 (some .boolean)]
def wsX11_clause_r3 : List Cond := [Cond.methodLink RX11 119 yX11_in, Cond.static yX11_in, Cond.code yX11_in cX11_in 3 (some .boolean), Cond.methodLink RX11 148 yX11_closes, Cond.instanceMethod yX11_closes, Cond.selects RX11 yX11_closes yX11_closes, Cond.code yX11_closes cX11_closes 1 none]
def wsX11_clause : List Cond := .code yX11_clause cX11_clause 3 none :: ((wsX11_clause_r1 ++ (wsX11_clause_r2 ++ wsX11_clause_r3)) ++ wsX110)
def wsX11_siege_r1 : List Cond := [Cond.fieldLink RX11 85 "HiredEnemyModel" "thrown" "I", Cond.fieldLink RX11 88 "HiredEnemyModel" "tape" "I", Cond.fieldLink RX11 101 "HiredEnemyModel" "fault" "I", Cond.fieldLink RX11 94 "HiredEnemyModel" "at" "I", Cond.fieldLink RX11 91 "HiredEnemyModel" "size" "I", Cond.fieldLink RX11 104 "HiredEnemyModel" "faultAt" "I", Cond.fieldLink RX11 9 "HiredEnemyModel" "place" "I", Cond.fieldLink RX11 23 "HiredEnemyModel" "told" "[I", Cond.methodLink RX11 119 yX11_in, Cond.static yX11_in, Cond.initialized RX11, Cond.code yX11_in cX11_in 3 (some .boolean), Cond.methodLink RX11 151 yX11_bad, Cond.instanceMethod yX11_bad, Cond.selects RX11 yX11_bad yX11_bad, Cond.code yX11_bad cX11_bad 4 (some .boolean), Cond.fieldLink RX11 17 "HiredEnemyModel" "refused" "[I", Cond.methodLink RX11 155 yX11_starts, Cond.instanceMethod yX11_starts, Cond.selects RX11 yX11_starts yX11_starts, Cond.code yX11_starts cX11_starts 2 none, Cond.fieldLink RX11 131 "HiredEnemyModel" "clauses" "I", Cond.methodLink RX11 107 yX11_blanks, Cond.instanceMethod yX11_blanks]
def wsX11_siege_r2 : List Cond := [Cond.selects RX11 yX11_blanks yX11_blanks, Cond.code yX11_blanks cX11_blanks 1 none, Cond.methodLink RX11 97 yX11_byteAt, Cond.instanceMethod yX11_byteAt, Cond.selects RX11 yX11_byteAt yX11_byteAt, Cond.code yX11_byteAt cX11_byteAt 2 (some .int), Cond.fieldLink RX11 13 "HiredEnemyModel" "fed" "[I", Cond.methodLink RX11 79 yX11_tellsNothing, Cond.instanceMethod yX11_tellsNothing, Cond.selects RX11 yX11_tellsNothing yX11_tellsNothing, Cond.code yX11_tellsNothing cX11_tellsNothing 3 none, Cond.arrayClass .int, Cond.fieldLink RX11 20 "HiredEnemyModel" "readTold" "[I", Cond.methodLink RX11 159 yX11_clause, Cond.instanceMethod yX11_clause, Cond.selects RX11 yX11_clause yX11_clause, Cond.code yX11_clause cX11_clause 3 none, Cond.fieldLink RX11 28 "HiredEnemyModel" "readWall" "[[I", Cond.methodLink RX11 138 yX11_kindHere, Cond.instanceMethod yX11_kindHere, Cond.selects RX11 yX11_kindHere yX11_kindHere, Cond.code yX11_kindHere cX11_kindHere 1 (some .int), Cond.methodLink RX11 134 yX11_isWord, Cond.instanceMethod yX11_isWord]
def wsX11_siege_r3 : List Cond := [Cond.selects RX11 yX11_isWord yX11_isWord, Cond.code yX11_isWord cX11_isWord 7 (some .boolean), Cond.methodLink RX11 123 yX11_wordHere, Cond.instanceMethod yX11_wordHere, Cond.selects RX11 yX11_wordHere yX11_wordHere, Cond.code yX11_wordHere cX11_wordHere 3 (some .int), Cond.methodLink RX11 127 yX11_six, Cond.static yX11_six, Cond.code yX11_six cX11_six 7 (some .int), Cond.methodLink RX11 114 yX11_wrong, Cond.instanceMethod yX11_wrong, Cond.selects RX11 yX11_wrong yX11_wrong, Cond.code yX11_wrong cX11_wrong 3 none, Cond.methodLink RX11 141 yX11_skipWord, Cond.instanceMethod yX11_skipWord, Cond.selects RX11 yX11_skipWord yX11_skipWord, Cond.code yX11_skipWord cX11_skipWord 1 none, Cond.methodLink RX11 144 yX11_number, Cond.instanceMethod yX11_number, Cond.selects RX11 yX11_number yX11_number, Cond.code yX11_number cX11_number 5 (some .int), Cond.constant RX11 118 (100000), Cond.methodLink RX11 110 yX11_isDigit, Cond.static yX11_isDigit]
def wsX11_siege_r4 : List Cond := [Cond.code yX11_isDigit cX11_isDigit 1 (some .boolean), Cond.methodLink RX11 148 yX11_closes, Cond.instanceMethod yX11_closes, Cond.selects RX11 yX11_closes yX11_closes, Cond.code yX11_closes cX11_closes 1 none, Cond.methodLink RX11 82 yX11_stands0, Cond.instanceMethod yX11_stands0, Cond.selects RX11 yX11_stands0 yX11_stands0, Cond.code yX11_stands0 cX11_stands0 3 none, Cond.fieldLink RX11 46 "HiredEnemyModel" "s" "[I", Cond.fieldLink RX11 31 "HiredEnemyModel" "wall" "[[I", Cond.fieldLink RX11 55 "HiredEnemyModel" "shot" "[[I", Cond.fieldLink RX11 64 "HiredEnemyModel" "kind" "[[I", Cond.fieldLink RX11 70 "HiredEnemyModel" "offered" "[[I", Cond.fieldLink RX11 162 "HiredEnemyModel" "contracts" "I", Cond.fieldLink RX11 58 "HiredEnemyModel" "oddsA" "I", Cond.fieldLink RX11 61 "HiredEnemyModel" "oddsB" "I", Cond.fieldLink RX11 165 "HiredEnemyModel" "things" "I", Cond.fieldLink RX11 168 "HiredEnemyModel" "images" "I"]
def wsX11_siege : List Cond := .code yX11_siege cX11_siege 2 (some .int) :: ((wsX11_siege_r1 ++ (wsX11_siege_r2 ++ (wsX11_siege_r3 ++ wsX11_siege_r4))) ++ wsX110)
def wsX11_rules_r1 : List Cond := [Cond.fieldLink RX11 94 "HiredEnemyModel" "at" "I", Cond.fieldLink RX11 131 "HiredEnemyModel" "clauses" "I", Cond.fieldLink RX11 101 "HiredEnemyModel" "fault" "I", Cond.fieldLink RX11 23 "HiredEnemyModel" "told" "[I", Cond.fieldLink RX11 37 "HiredEnemyModel" "readBreach" "[I", Cond.fieldLink RX11 34 "HiredEnemyModel" "readContract" "[I", Cond.methodLink RX11 134 yX11_isWord, Cond.instanceMethod yX11_isWord, Cond.selects RX11 yX11_isWord yX11_isWord, Cond.initialized RX11, Cond.code yX11_isWord cX11_isWord 7 (some .boolean), Cond.methodLink RX11 123 yX11_wordHere, Cond.instanceMethod yX11_wordHere, Cond.selects RX11 yX11_wordHere yX11_wordHere, Cond.code yX11_wordHere cX11_wordHere 3 (some .int), Cond.methodLink RX11 107 yX11_blanks, Cond.instanceMethod yX11_blanks, Cond.selects RX11 yX11_blanks yX11_blanks, Cond.code yX11_blanks cX11_blanks 1 none, Cond.methodLink RX11 97 yX11_byteAt, Cond.instanceMethod yX11_byteAt, Cond.selects RX11 yX11_byteAt yX11_byteAt, Cond.code yX11_byteAt cX11_byteAt 2 (some .int), Cond.fieldLink RX11 91 "HiredEnemyModel" "size" "I"]
def wsX11_rules_r2 : List Cond := [Cond.fieldLink RX11 13 "HiredEnemyModel" "fed" "[I", Cond.methodLink RX11 127 yX11_six, Cond.static yX11_six, Cond.code yX11_six cX11_six 7 (some .int), Cond.methodLink RX11 114 yX11_wrong, Cond.instanceMethod yX11_wrong, Cond.selects RX11 yX11_wrong yX11_wrong, Cond.code yX11_wrong cX11_wrong 3 none, Cond.fieldLink RX11 104 "HiredEnemyModel" "faultAt" "I", Cond.methodLink RX11 141 yX11_skipWord, Cond.instanceMethod yX11_skipWord, Cond.selects RX11 yX11_skipWord yX11_skipWord, Cond.code yX11_skipWord cX11_skipWord 1 none, Cond.methodLink RX11 144 yX11_number, Cond.instanceMethod yX11_number, Cond.selects RX11 yX11_number yX11_number, Cond.code yX11_number cX11_number 5 (some .int), Cond.constant RX11 118 (100000), Cond.methodLink RX11 110 yX11_isDigit, Cond.static yX11_isDigit, Cond.code yX11_isDigit cX11_isDigit 1 (some .boolean), Cond.methodLink RX11 119 yX11_in, Cond.static yX11_in, Cond.code yX11_in cX11_in 3 (some .boolean)]
def wsX11_rules_r3 : List Cond := [Cond.methodLink RX11 148 yX11_closes, Cond.instanceMethod yX11_closes, Cond.selects RX11 yX11_closes yX11_closes, Cond.code yX11_closes cX11_closes 1 none]
def wsX11_rules : List Cond := .code yX11_rules cX11_rules 4 none :: ((wsX11_rules_r1 ++ (wsX11_rules_r2 ++ wsX11_rules_r3)) ++ wsX110)
def wsX11_contract_r1 : List Cond := [Cond.fieldLink RX11 85 "HiredEnemyModel" "thrown" "I", Cond.fieldLink RX11 88 "HiredEnemyModel" "tape" "I", Cond.fieldLink RX11 9 "HiredEnemyModel" "place" "I", Cond.fieldLink RX11 162 "HiredEnemyModel" "contracts" "I", Cond.fieldLink RX11 34 "HiredEnemyModel" "readContract" "[I", Cond.fieldLink RX11 37 "HiredEnemyModel" "readBreach" "[I", Cond.fieldLink RX11 101 "HiredEnemyModel" "fault" "I", Cond.fieldLink RX11 94 "HiredEnemyModel" "at" "I", Cond.fieldLink RX11 91 "HiredEnemyModel" "size" "I", Cond.fieldLink RX11 104 "HiredEnemyModel" "faultAt" "I", Cond.fieldLink RX11 43 "HiredEnemyModel" "breach" "[[I", Cond.fieldLink RX11 40 "HiredEnemyModel" "contract" "[[I", Cond.methodLink RX11 119 yX11_in, Cond.static yX11_in, Cond.initialized RX11, Cond.code yX11_in cX11_in 3 (some .boolean), Cond.methodLink RX11 151 yX11_bad, Cond.instanceMethod yX11_bad, Cond.selects RX11 yX11_bad yX11_bad, Cond.code yX11_bad cX11_bad 4 (some .boolean), Cond.fieldLink RX11 17 "HiredEnemyModel" "refused" "[I", Cond.methodLink RX11 155 yX11_starts, Cond.instanceMethod yX11_starts, Cond.selects RX11 yX11_starts yX11_starts]
def wsX11_contract_r2 : List Cond := [Cond.code yX11_starts cX11_starts 2 none, Cond.fieldLink RX11 131 "HiredEnemyModel" "clauses" "I", Cond.methodLink RX11 107 yX11_blanks, Cond.instanceMethod yX11_blanks, Cond.selects RX11 yX11_blanks yX11_blanks, Cond.code yX11_blanks cX11_blanks 1 none, Cond.methodLink RX11 97 yX11_byteAt, Cond.instanceMethod yX11_byteAt, Cond.selects RX11 yX11_byteAt yX11_byteAt, Cond.code yX11_byteAt cX11_byteAt 2 (some .int), Cond.fieldLink RX11 13 "HiredEnemyModel" "fed" "[I", Cond.methodLink RX11 171 yX11_rules, Cond.instanceMethod yX11_rules, Cond.selects RX11 yX11_rules yX11_rules, Cond.code yX11_rules cX11_rules 4 none, Cond.fieldLink RX11 23 "HiredEnemyModel" "told" "[I", Cond.methodLink RX11 134 yX11_isWord, Cond.instanceMethod yX11_isWord, Cond.selects RX11 yX11_isWord yX11_isWord, Cond.code yX11_isWord cX11_isWord 7 (some .boolean), Cond.methodLink RX11 123 yX11_wordHere, Cond.instanceMethod yX11_wordHere, Cond.selects RX11 yX11_wordHere yX11_wordHere, Cond.code yX11_wordHere cX11_wordHere 3 (some .int)]
def wsX11_contract_r3 : List Cond := [Cond.methodLink RX11 127 yX11_six, Cond.static yX11_six, Cond.code yX11_six cX11_six 7 (some .int), Cond.methodLink RX11 114 yX11_wrong, Cond.instanceMethod yX11_wrong, Cond.selects RX11 yX11_wrong yX11_wrong, Cond.code yX11_wrong cX11_wrong 3 none, Cond.methodLink RX11 141 yX11_skipWord, Cond.instanceMethod yX11_skipWord, Cond.selects RX11 yX11_skipWord yX11_skipWord, Cond.code yX11_skipWord cX11_skipWord 1 none, Cond.methodLink RX11 144 yX11_number, Cond.instanceMethod yX11_number, Cond.selects RX11 yX11_number yX11_number, Cond.code yX11_number cX11_number 5 (some .int), Cond.constant RX11 118 (100000), Cond.methodLink RX11 110 yX11_isDigit, Cond.static yX11_isDigit, Cond.code yX11_isDigit cX11_isDigit 1 (some .boolean), Cond.methodLink RX11 148 yX11_closes, Cond.instanceMethod yX11_closes, Cond.selects RX11 yX11_closes yX11_closes, Cond.code yX11_closes cX11_closes 1 none]
def wsX11_contract : List Cond := .code yX11_contract cX11_contract 3 (some .int) :: ((wsX11_contract_r1 ++ (wsX11_contract_r2 ++ wsX11_contract_r3)) ++ wsX110)
def wsX11_fault : List Cond := .code yX11_fault cX11_fault 1 (some .int) :: ([.fieldLink RX11 85 "HiredEnemyModel" "thrown" "I", .fieldLink RX11 9 "HiredEnemyModel" "place" "I"] ++ wsX110)
def wsX11_told : List Cond := .code yX11_told cX11_told 2 (some .int) :: ([.fieldLink RX11 85 "HiredEnemyModel" "thrown" "I", .fieldLink RX11 23 "HiredEnemyModel" "told" "[I", .fieldLink RX11 162 "HiredEnemyModel" "contracts" "I", .fieldLink RX11 46 "HiredEnemyModel" "s" "[I", .methodLink RX11 119 yX11_in, .static yX11_in, .initialized RX11, .code yX11_in cX11_in 3 (some .boolean), .methodLink RX11 151 yX11_bad, .instanceMethod yX11_bad, .selects RX11 yX11_bad yX11_bad, .code yX11_bad cX11_bad 4 (some .boolean), .fieldLink RX11 17 "HiredEnemyModel" "refused" "[I"] ++ wsX110)
def wsX11_isWall : List Cond := .code yX11_isWall cX11_isWall 2 (some .boolean) :: ([.fieldLink RX11 23 "HiredEnemyModel" "told" "[I", .methodLink RX11 119 yX11_in, .static yX11_in, .initialized RX11, .code yX11_in cX11_in 3 (some .boolean)] ++ wsX110)
def wsX11_wall : List Cond := .code yX11_wall cX11_wall 3 (some .int) :: ([.fieldLink RX11 85 "HiredEnemyModel" "thrown" "I", .fieldLink RX11 31 "HiredEnemyModel" "wall" "[[I", .fieldLink RX11 46 "HiredEnemyModel" "s" "[I", .methodLink RX11 174 yX11_isWall, .instanceMethod yX11_isWall, .selects RX11 yX11_isWall yX11_isWall, .initialized RX11, .code yX11_isWall cX11_isWall 2 (some .boolean), .fieldLink RX11 23 "HiredEnemyModel" "told" "[I", .methodLink RX11 119 yX11_in, .static yX11_in, .code yX11_in cX11_in 3 (some .boolean), .methodLink RX11 151 yX11_bad, .instanceMethod yX11_bad, .selects RX11 yX11_bad yX11_bad, .code yX11_bad cX11_bad 4 (some .boolean), .fieldLink RX11 17 "HiredEnemyModel" "refused" "[I"] ++ wsX110)
def wsX11_isContract : List Cond := .code yX11_isContract cX11_isContract 2 (some .boolean) :: ([.fieldLink RX11 162 "HiredEnemyModel" "contracts" "I", .methodLink RX11 119 yX11_in, .static yX11_in, .initialized RX11, .code yX11_in cX11_in 3 (some .boolean)] ++ wsX110)
def wsX11_rule : List Cond := .code yX11_rule cX11_rule 3 (some .int) :: ([.fieldLink RX11 85 "HiredEnemyModel" "thrown" "I", .fieldLink RX11 40 "HiredEnemyModel" "contract" "[[I", .methodLink RX11 177 yX11_isContract, .instanceMethod yX11_isContract, .selects RX11 yX11_isContract yX11_isContract, .initialized RX11, .code yX11_isContract cX11_isContract 2 (some .boolean), .fieldLink RX11 162 "HiredEnemyModel" "contracts" "I", .methodLink RX11 119 yX11_in, .static yX11_in, .code yX11_in cX11_in 3 (some .boolean), .methodLink RX11 151 yX11_bad, .instanceMethod yX11_bad, .selects RX11 yX11_bad yX11_bad, .code yX11_bad cX11_bad 4 (some .boolean), .fieldLink RX11 17 "HiredEnemyModel" "refused" "[I"] ++ wsX110)
def wsX11_wantsFor : List Cond := .code yX11_wantsFor cX11_wantsFor 3 (some .int) :: ([.fieldLink RX11 23 "HiredEnemyModel" "told" "[I"] ++ wsX110)
def wsX11_wants : List Cond := .code yX11_wants cX11_wants 3 (some .int) :: ([.fieldLink RX11 85 "HiredEnemyModel" "thrown" "I", .methodLink RX11 119 yX11_in, .static yX11_in, .initialized RX11, .code yX11_in cX11_in 3 (some .boolean), .methodLink RX11 151 yX11_bad, .instanceMethod yX11_bad, .selects RX11 yX11_bad yX11_bad, .code yX11_bad cX11_bad 4 (some .boolean), .fieldLink RX11 17 "HiredEnemyModel" "refused" "[I", .methodLink RX11 180 yX11_wantsFor, .instanceMethod yX11_wantsFor, .selects RX11 yX11_wantsFor yX11_wantsFor, .code yX11_wantsFor cX11_wantsFor 3 (some .int), .fieldLink RX11 23 "HiredEnemyModel" "told" "[I"] ++ wsX110)
def wsX11_signs : List Cond := .code yX11_signs cX11_signs 2 none :: ([.fieldLink RX11 46 "HiredEnemyModel" "s" "[I"] ++ wsX110)
def wsX11_sign : List Cond := .code yX11_sign cX11_sign 3 (some .int) :: ([.fieldLink RX11 85 "HiredEnemyModel" "thrown" "I", .fieldLink RX11 46 "HiredEnemyModel" "s" "[I", .methodLink RX11 177 yX11_isContract, .instanceMethod yX11_isContract, .selects RX11 yX11_isContract yX11_isContract, .initialized RX11, .code yX11_isContract cX11_isContract 2 (some .boolean), .fieldLink RX11 162 "HiredEnemyModel" "contracts" "I", .methodLink RX11 119 yX11_in, .static yX11_in, .code yX11_in cX11_in 3 (some .boolean), .methodLink RX11 151 yX11_bad, .instanceMethod yX11_bad, .selects RX11 yX11_bad yX11_bad, .code yX11_bad cX11_bad 4 (some .boolean), .fieldLink RX11 17 "HiredEnemyModel" "refused" "[I", .methodLink RX11 183 yX11_signs, .instanceMethod yX11_signs, .selects RX11 yX11_signs yX11_signs, .code yX11_signs cX11_signs 2 none] ++ wsX110)
def wsX11_less : List Cond := .code yX11_less cX11_less 2 (some .int) :: ([])
def wsX11_pays : List Cond := .code yX11_pays cX11_pays 5 none :: ([.fieldLink RX11 46 "HiredEnemyModel" "s" "[I", .methodLink RX11 186 yX11_less, .static yX11_less, .initialized RX11, .code yX11_less cX11_less 2 (some .int)] ++ wsX110)
def wsX11_fears : List Cond := .code yX11_fears cX11_fears 2 none :: ([.fieldLink RX11 46 "HiredEnemyModel" "s" "[I", .methodLink RX11 186 yX11_less, .static yX11_less, .initialized RX11, .code yX11_less cX11_less 2 (some .int)] ++ wsX110)
def wsX11_weakest : List Cond := .code yX11_weakest cX11_weakest 3 (some .int) :: ([.fieldLink RX11 23 "HiredEnemyModel" "told" "[I", .fieldLink RX11 46 "HiredEnemyModel" "s" "[I"] ++ wsX110)
def wsX11_shoots : List Cond := .code yX11_shoots cX11_shoots 7 none :: ([.fieldLink RX11 46 "HiredEnemyModel" "s" "[I", .fieldLink RX11 23 "HiredEnemyModel" "told" "[I", .fieldLink RX11 192 "HiredEnemyModel" "isReal" "Z", .fieldLink RX11 55 "HiredEnemyModel" "shot" "[[I", .fieldLink RX11 31 "HiredEnemyModel" "wall" "[[I", .methodLink RX11 189 yX11_weakest, .instanceMethod yX11_weakest, .selects RX11 yX11_weakest yX11_weakest, .initialized RX11, .code yX11_weakest cX11_weakest 3 (some .int), .methodLink RX11 196 yX11_fears, .instanceMethod yX11_fears, .selects RX11 yX11_fears yX11_fears, .code yX11_fears cX11_fears 2 none, .methodLink RX11 186 yX11_less, .static yX11_less, .code yX11_less cX11_less 2 (some .int), .methodLink RX11 199 yX11_pays, .instanceMethod yX11_pays, .selects RX11 yX11_pays yX11_pays, .code yX11_pays cX11_pays 5 none] ++ wsX110)
def wsX11_underContract_r1 : List Cond := [Cond.fieldLink RX11 40 "HiredEnemyModel" "contract" "[[I", Cond.fieldLink RX11 46 "HiredEnemyModel" "s" "[I", Cond.fieldLink RX11 43 "HiredEnemyModel" "breach" "[[I", Cond.methodLink RX11 183 yX11_signs, Cond.instanceMethod yX11_signs, Cond.selects RX11 yX11_signs yX11_signs, Cond.initialized RX11, Cond.code yX11_signs cX11_signs 2 none, Cond.methodLink RX11 199 yX11_pays, Cond.instanceMethod yX11_pays, Cond.selects RX11 yX11_pays yX11_pays, Cond.code yX11_pays cX11_pays 5 none, Cond.methodLink RX11 186 yX11_less, Cond.static yX11_less, Cond.code yX11_less cX11_less 2 (some .int), Cond.methodLink RX11 203 yX11_shoots, Cond.instanceMethod yX11_shoots, Cond.selects RX11 yX11_shoots yX11_shoots, Cond.code yX11_shoots cX11_shoots 7 none, Cond.fieldLink RX11 23 "HiredEnemyModel" "told" "[I", Cond.fieldLink RX11 192 "HiredEnemyModel" "isReal" "Z", Cond.fieldLink RX11 55 "HiredEnemyModel" "shot" "[[I", Cond.fieldLink RX11 31 "HiredEnemyModel" "wall" "[[I", Cond.methodLink RX11 189 yX11_weakest]
def wsX11_underContract_r2 : List Cond := [Cond.instanceMethod yX11_weakest, Cond.selects RX11 yX11_weakest yX11_weakest, Cond.code yX11_weakest cX11_weakest 3 (some .int), Cond.methodLink RX11 196 yX11_fears, Cond.instanceMethod yX11_fears, Cond.selects RX11 yX11_fears yX11_fears, Cond.code yX11_fears cX11_fears 2 none]
def wsX11_underContract : List Cond := .code yX11_underContract cX11_underContract 4 none :: ((wsX11_underContract_r1 ++ wsX11_underContract_r2) ++ wsX110)
def wsX11_mends : List Cond := .code yX11_mends cX11_mends 4 none :: ([.fieldLink RX11 23 "HiredEnemyModel" "told" "[I", .fieldLink RX11 31 "HiredEnemyModel" "wall" "[[I", .fieldLink RX11 46 "HiredEnemyModel" "s" "[I", .methodLink RX11 186 yX11_less, .static yX11_less, .initialized RX11, .code yX11_less cX11_less 2 (some .int), .methodLink RX11 199 yX11_pays, .instanceMethod yX11_pays, .selects RX11 yX11_pays yX11_pays, .code yX11_pays cX11_pays 5 none] ++ wsX110)
def wsX11_deserts : List Cond := .code yX11_deserts cX11_deserts 4 none :: ([.fieldLink RX11 23 "HiredEnemyModel" "told" "[I", .fieldLink RX11 46 "HiredEnemyModel" "s" "[I"] ++ wsX110)
def wsX11_monthGoes_r1 : List Cond := [Cond.fieldLink RX11 46 "HiredEnemyModel" "s" "[I", Cond.fieldLink RX11 23 "HiredEnemyModel" "told" "[I", Cond.fieldLink RX11 40 "HiredEnemyModel" "contract" "[[I", Cond.methodLink RX11 199 yX11_pays, Cond.instanceMethod yX11_pays, Cond.selects RX11 yX11_pays yX11_pays, Cond.initialized RX11, Cond.code yX11_pays cX11_pays 5 none, Cond.methodLink RX11 186 yX11_less, Cond.static yX11_less, Cond.code yX11_less cX11_less 2 (some .int), Cond.methodLink RX11 207 yX11_underContract, Cond.instanceMethod yX11_underContract, Cond.selects RX11 yX11_underContract yX11_underContract, Cond.code yX11_underContract cX11_underContract 4 none, Cond.fieldLink RX11 43 "HiredEnemyModel" "breach" "[[I", Cond.methodLink RX11 183 yX11_signs, Cond.instanceMethod yX11_signs, Cond.selects RX11 yX11_signs yX11_signs, Cond.code yX11_signs cX11_signs 2 none, Cond.methodLink RX11 203 yX11_shoots, Cond.instanceMethod yX11_shoots, Cond.selects RX11 yX11_shoots yX11_shoots, Cond.code yX11_shoots cX11_shoots 7 none]
def wsX11_monthGoes_r2 : List Cond := [Cond.fieldLink RX11 192 "HiredEnemyModel" "isReal" "Z", Cond.fieldLink RX11 55 "HiredEnemyModel" "shot" "[[I", Cond.fieldLink RX11 31 "HiredEnemyModel" "wall" "[[I", Cond.methodLink RX11 189 yX11_weakest, Cond.instanceMethod yX11_weakest, Cond.selects RX11 yX11_weakest yX11_weakest, Cond.code yX11_weakest cX11_weakest 3 (some .int), Cond.methodLink RX11 196 yX11_fears, Cond.instanceMethod yX11_fears, Cond.selects RX11 yX11_fears yX11_fears, Cond.code yX11_fears cX11_fears 2 none, Cond.methodLink RX11 210 yX11_mends, Cond.instanceMethod yX11_mends, Cond.selects RX11 yX11_mends yX11_mends, Cond.code yX11_mends cX11_mends 4 none, Cond.methodLink RX11 213 yX11_deserts, Cond.instanceMethod yX11_deserts, Cond.selects RX11 yX11_deserts yX11_deserts, Cond.code yX11_deserts cX11_deserts 4 none]
def wsX11_monthGoes : List Cond := .code yX11_monthGoes cX11_monthGoes 1 none :: ((wsX11_monthGoes_r1 ++ wsX11_monthGoes_r2) ++ wsX110)
def wsX11_puts : List Cond := .code yX11_puts cX11_puts 2 none :: ([.fieldLink RX11 49 "HiredEnemyModel" "aside" "[I", .fieldLink RX11 46 "HiredEnemyModel" "s" "[I"] ++ wsX110)
def wsX11_takes : List Cond := .code yX11_takes cX11_takes 2 none :: ([.fieldLink RX11 46 "HiredEnemyModel" "s" "[I", .fieldLink RX11 49 "HiredEnemyModel" "aside" "[I"] ++ wsX110)
def wsX11_goesOn_r1 : List Cond := [Cond.methodLink RX11 216 yX11_monthGoes, Cond.instanceMethod yX11_monthGoes, Cond.selects RX11 yX11_monthGoes yX11_monthGoes, Cond.initialized RX11, Cond.code yX11_monthGoes cX11_monthGoes 1 none, Cond.fieldLink RX11 46 "HiredEnemyModel" "s" "[I", Cond.fieldLink RX11 23 "HiredEnemyModel" "told" "[I", Cond.fieldLink RX11 40 "HiredEnemyModel" "contract" "[[I", Cond.methodLink RX11 199 yX11_pays, Cond.instanceMethod yX11_pays, Cond.selects RX11 yX11_pays yX11_pays, Cond.code yX11_pays cX11_pays 5 none, Cond.methodLink RX11 186 yX11_less, Cond.static yX11_less, Cond.code yX11_less cX11_less 2 (some .int), Cond.methodLink RX11 207 yX11_underContract, Cond.instanceMethod yX11_underContract, Cond.selects RX11 yX11_underContract yX11_underContract, Cond.code yX11_underContract cX11_underContract 4 none, Cond.fieldLink RX11 43 "HiredEnemyModel" "breach" "[[I", Cond.methodLink RX11 183 yX11_signs, Cond.instanceMethod yX11_signs, Cond.selects RX11 yX11_signs yX11_signs, Cond.code yX11_signs cX11_signs 2 none]
def wsX11_goesOn_r2 : List Cond := [Cond.methodLink RX11 203 yX11_shoots, Cond.instanceMethod yX11_shoots, Cond.selects RX11 yX11_shoots yX11_shoots, Cond.code yX11_shoots cX11_shoots 7 none, Cond.fieldLink RX11 192 "HiredEnemyModel" "isReal" "Z", Cond.fieldLink RX11 55 "HiredEnemyModel" "shot" "[[I", Cond.fieldLink RX11 31 "HiredEnemyModel" "wall" "[[I", Cond.methodLink RX11 189 yX11_weakest, Cond.instanceMethod yX11_weakest, Cond.selects RX11 yX11_weakest yX11_weakest, Cond.code yX11_weakest cX11_weakest 3 (some .int), Cond.methodLink RX11 196 yX11_fears, Cond.instanceMethod yX11_fears, Cond.selects RX11 yX11_fears yX11_fears, Cond.code yX11_fears cX11_fears 2 none, Cond.methodLink RX11 210 yX11_mends, Cond.instanceMethod yX11_mends, Cond.selects RX11 yX11_mends yX11_mends, Cond.code yX11_mends cX11_mends 4 none, Cond.methodLink RX11 213 yX11_deserts, Cond.instanceMethod yX11_deserts, Cond.selects RX11 yX11_deserts yX11_deserts, Cond.code yX11_deserts cX11_deserts 4 none]
def wsX11_goesOn : List Cond := .code yX11_goesOn cX11_goesOn 3 none :: ((wsX11_goesOn_r1 ++ wsX11_goesOn_r2) ++ wsX110)
def wsX11_months_r1 : List Cond := [Cond.fieldLink RX11 85 "HiredEnemyModel" "thrown" "I", Cond.fieldLink RX11 192 "HiredEnemyModel" "isReal" "Z", Cond.fieldLink RX11 46 "HiredEnemyModel" "s" "[I", Cond.fieldLink RX11 52 "HiredEnemyModel" "gone" "[[I", Cond.fieldLink RX11 55 "HiredEnemyModel" "shot" "[[I", Cond.methodLink RX11 119 yX11_in, Cond.static yX11_in, Cond.initialized RX11, Cond.code yX11_in cX11_in 3 (some .boolean), Cond.methodLink RX11 151 yX11_bad, Cond.instanceMethod yX11_bad, Cond.selects RX11 yX11_bad yX11_bad, Cond.code yX11_bad cX11_bad 4 (some .boolean), Cond.fieldLink RX11 17 "HiredEnemyModel" "refused" "[I", Cond.methodLink RX11 216 yX11_monthGoes, Cond.instanceMethod yX11_monthGoes, Cond.selects RX11 yX11_monthGoes yX11_monthGoes, Cond.code yX11_monthGoes cX11_monthGoes 1 none, Cond.fieldLink RX11 23 "HiredEnemyModel" "told" "[I", Cond.fieldLink RX11 40 "HiredEnemyModel" "contract" "[[I", Cond.methodLink RX11 199 yX11_pays, Cond.instanceMethod yX11_pays, Cond.selects RX11 yX11_pays yX11_pays, Cond.code yX11_pays cX11_pays 5 none]
def wsX11_months_r2 : List Cond := [Cond.methodLink RX11 186 yX11_less, Cond.static yX11_less, Cond.code yX11_less cX11_less 2 (some .int), Cond.methodLink RX11 207 yX11_underContract, Cond.instanceMethod yX11_underContract, Cond.selects RX11 yX11_underContract yX11_underContract, Cond.code yX11_underContract cX11_underContract 4 none, Cond.fieldLink RX11 43 "HiredEnemyModel" "breach" "[[I", Cond.methodLink RX11 183 yX11_signs, Cond.instanceMethod yX11_signs, Cond.selects RX11 yX11_signs yX11_signs, Cond.code yX11_signs cX11_signs 2 none, Cond.methodLink RX11 203 yX11_shoots, Cond.instanceMethod yX11_shoots, Cond.selects RX11 yX11_shoots yX11_shoots, Cond.code yX11_shoots cX11_shoots 7 none, Cond.fieldLink RX11 31 "HiredEnemyModel" "wall" "[[I", Cond.methodLink RX11 189 yX11_weakest, Cond.instanceMethod yX11_weakest, Cond.selects RX11 yX11_weakest yX11_weakest, Cond.code yX11_weakest cX11_weakest 3 (some .int), Cond.methodLink RX11 196 yX11_fears, Cond.instanceMethod yX11_fears, Cond.selects RX11 yX11_fears yX11_fears]
def wsX11_months_r3 : List Cond := [Cond.code yX11_fears cX11_fears 2 none, Cond.methodLink RX11 210 yX11_mends, Cond.instanceMethod yX11_mends, Cond.selects RX11 yX11_mends yX11_mends, Cond.code yX11_mends cX11_mends 4 none, Cond.methodLink RX11 213 yX11_deserts, Cond.instanceMethod yX11_deserts, Cond.selects RX11 yX11_deserts yX11_deserts, Cond.code yX11_deserts cX11_deserts 4 none]
def wsX11_months : List Cond := .code yX11_months cX11_months 5 (some .int) :: ((wsX11_months_r1 ++ (wsX11_months_r2 ++ wsX11_months_r3)) ++ wsX110)
def wsX11_undo : List Cond := .code yX11_undo cX11_undo 5 (some .int) :: ([.fieldLink RX11 85 "HiredEnemyModel" "thrown" "I", .fieldLink RX11 46 "HiredEnemyModel" "s" "[I", .fieldLink RX11 52 "HiredEnemyModel" "gone" "[[I", .methodLink RX11 119 yX11_in, .static yX11_in, .initialized RX11, .code yX11_in cX11_in 3 (some .boolean), .methodLink RX11 151 yX11_bad, .instanceMethod yX11_bad, .selects RX11 yX11_bad yX11_bad, .code yX11_bad cX11_bad 4 (some .boolean), .fieldLink RX11 17 "HiredEnemyModel" "refused" "[I", .methodLink RX11 186 yX11_less, .static yX11_less, .code yX11_less cX11_less 2 (some .int)] ++ wsX110)
def wsX11_sums : List Cond := .code yX11_sums cX11_sums 2 (some .int) :: ([.fieldLink RX11 85 "HiredEnemyModel" "thrown" "I", .fieldLink RX11 46 "HiredEnemyModel" "s" "[I", .methodLink RX11 119 yX11_in, .static yX11_in, .initialized RX11, .code yX11_in cX11_in 3 (some .boolean), .methodLink RX11 151 yX11_bad, .instanceMethod yX11_bad, .selects RX11 yX11_bad yX11_bad, .code yX11_bad cX11_bad 4 (some .boolean), .fieldLink RX11 17 "HiredEnemyModel" "refused" "[I"] ++ wsX110)
def wsX11_corks : List Cond := .code yX11_corks cX11_corks 3 (some .int) :: ([.fieldLink RX11 85 "HiredEnemyModel" "thrown" "I", .fieldLink RX11 46 "HiredEnemyModel" "s" "[I", .fieldLink RX11 55 "HiredEnemyModel" "shot" "[[I", .methodLink RX11 174 yX11_isWall, .instanceMethod yX11_isWall, .selects RX11 yX11_isWall yX11_isWall, .initialized RX11, .code yX11_isWall cX11_isWall 2 (some .boolean), .fieldLink RX11 23 "HiredEnemyModel" "told" "[I", .methodLink RX11 119 yX11_in, .static yX11_in, .code yX11_in cX11_in 3 (some .boolean), .methodLink RX11 151 yX11_bad, .instanceMethod yX11_bad, .selects RX11 yX11_bad yX11_bad, .code yX11_bad cX11_bad 4 (some .boolean), .fieldLink RX11 17 "HiredEnemyModel" "refused" "[I"] ++ wsX110)
def wsX11_areMonths : List Cond := .code yX11_areMonths cX11_areMonths 1 (some .boolean) :: ([.methodLink RX11 119 yX11_in, .static yX11_in, .initialized RX11, .code yX11_in cX11_in 3 (some .boolean)])
def wsX11_by_r1 : List Cond := [Cond.fieldLink RX11 46 "HiredEnemyModel" "s" "[I", Cond.methodLink RX11 219 yX11_puts, Cond.instanceMethod yX11_puts, Cond.selects RX11 yX11_puts yX11_puts, Cond.initialized RX11, Cond.code yX11_puts cX11_puts 2 none, Cond.fieldLink RX11 49 "HiredEnemyModel" "aside" "[I", Cond.methodLink RX11 183 yX11_signs, Cond.instanceMethod yX11_signs, Cond.selects RX11 yX11_signs yX11_signs, Cond.code yX11_signs cX11_signs 2 none, Cond.methodLink RX11 222 yX11_goesOn, Cond.instanceMethod yX11_goesOn, Cond.selects RX11 yX11_goesOn yX11_goesOn, Cond.code yX11_goesOn cX11_goesOn 3 none, Cond.methodLink RX11 216 yX11_monthGoes, Cond.instanceMethod yX11_monthGoes, Cond.selects RX11 yX11_monthGoes yX11_monthGoes, Cond.code yX11_monthGoes cX11_monthGoes 1 none, Cond.fieldLink RX11 23 "HiredEnemyModel" "told" "[I", Cond.fieldLink RX11 40 "HiredEnemyModel" "contract" "[[I", Cond.methodLink RX11 199 yX11_pays, Cond.instanceMethod yX11_pays, Cond.selects RX11 yX11_pays yX11_pays]
def wsX11_by_r2 : List Cond := [Cond.code yX11_pays cX11_pays 5 none, Cond.methodLink RX11 186 yX11_less, Cond.static yX11_less, Cond.code yX11_less cX11_less 2 (some .int), Cond.methodLink RX11 207 yX11_underContract, Cond.instanceMethod yX11_underContract, Cond.selects RX11 yX11_underContract yX11_underContract, Cond.code yX11_underContract cX11_underContract 4 none, Cond.fieldLink RX11 43 "HiredEnemyModel" "breach" "[[I", Cond.methodLink RX11 203 yX11_shoots, Cond.instanceMethod yX11_shoots, Cond.selects RX11 yX11_shoots yX11_shoots, Cond.code yX11_shoots cX11_shoots 7 none, Cond.fieldLink RX11 192 "HiredEnemyModel" "isReal" "Z", Cond.fieldLink RX11 55 "HiredEnemyModel" "shot" "[[I", Cond.fieldLink RX11 31 "HiredEnemyModel" "wall" "[[I", Cond.methodLink RX11 189 yX11_weakest, Cond.instanceMethod yX11_weakest, Cond.selects RX11 yX11_weakest yX11_weakest, Cond.code yX11_weakest cX11_weakest 3 (some .int), Cond.methodLink RX11 196 yX11_fears, Cond.instanceMethod yX11_fears, Cond.selects RX11 yX11_fears yX11_fears, Cond.code yX11_fears cX11_fears 2 none]
def wsX11_by_r3 : List Cond := [Cond.methodLink RX11 210 yX11_mends, Cond.instanceMethod yX11_mends, Cond.selects RX11 yX11_mends yX11_mends, Cond.code yX11_mends cX11_mends 4 none, Cond.methodLink RX11 213 yX11_deserts, Cond.instanceMethod yX11_deserts, Cond.selects RX11 yX11_deserts yX11_deserts, Cond.code yX11_deserts cX11_deserts 4 none, Cond.methodLink RX11 225 yX11_takes, Cond.instanceMethod yX11_takes, Cond.selects RX11 yX11_takes yX11_takes, Cond.code yX11_takes cX11_takes 2 none]
def wsX11_by : List Cond := .code yX11_by cX11_by 5 (some .int) :: ((wsX11_by_r1 ++ (wsX11_by_r2 ++ wsX11_by_r3)) ++ wsX110)
def wsX11_would_r1 : List Cond := [Cond.fieldLink RX11 85 "HiredEnemyModel" "thrown" "I", Cond.methodLink RX11 177 yX11_isContract, Cond.instanceMethod yX11_isContract, Cond.selects RX11 yX11_isContract yX11_isContract, Cond.initialized RX11, Cond.code yX11_isContract cX11_isContract 2 (some .boolean), Cond.fieldLink RX11 162 "HiredEnemyModel" "contracts" "I", Cond.methodLink RX11 119 yX11_in, Cond.static yX11_in, Cond.code yX11_in cX11_in 3 (some .boolean), Cond.methodLink RX11 151 yX11_bad, Cond.instanceMethod yX11_bad, Cond.selects RX11 yX11_bad yX11_bad, Cond.code yX11_bad cX11_bad 4 (some .boolean), Cond.fieldLink RX11 17 "HiredEnemyModel" "refused" "[I", Cond.methodLink RX11 228 yX11_areMonths, Cond.static yX11_areMonths, Cond.code yX11_areMonths cX11_areMonths 1 (some .boolean), Cond.methodLink RX11 231 yX11_by, Cond.instanceMethod yX11_by, Cond.selects RX11 yX11_by yX11_by, Cond.code yX11_by cX11_by 5 (some .int), Cond.fieldLink RX11 46 "HiredEnemyModel" "s" "[I", Cond.methodLink RX11 219 yX11_puts]
def wsX11_would_r2 : List Cond := [Cond.instanceMethod yX11_puts, Cond.selects RX11 yX11_puts yX11_puts, Cond.code yX11_puts cX11_puts 2 none, Cond.fieldLink RX11 49 "HiredEnemyModel" "aside" "[I", Cond.methodLink RX11 183 yX11_signs, Cond.instanceMethod yX11_signs, Cond.selects RX11 yX11_signs yX11_signs, Cond.code yX11_signs cX11_signs 2 none, Cond.methodLink RX11 222 yX11_goesOn, Cond.instanceMethod yX11_goesOn, Cond.selects RX11 yX11_goesOn yX11_goesOn, Cond.code yX11_goesOn cX11_goesOn 3 none, Cond.methodLink RX11 216 yX11_monthGoes, Cond.instanceMethod yX11_monthGoes, Cond.selects RX11 yX11_monthGoes yX11_monthGoes, Cond.code yX11_monthGoes cX11_monthGoes 1 none, Cond.fieldLink RX11 23 "HiredEnemyModel" "told" "[I", Cond.fieldLink RX11 40 "HiredEnemyModel" "contract" "[[I", Cond.methodLink RX11 199 yX11_pays, Cond.instanceMethod yX11_pays, Cond.selects RX11 yX11_pays yX11_pays, Cond.code yX11_pays cX11_pays 5 none, Cond.methodLink RX11 186 yX11_less, Cond.static yX11_less]
def wsX11_would_r3 : List Cond := [Cond.code yX11_less cX11_less 2 (some .int), Cond.methodLink RX11 207 yX11_underContract, Cond.instanceMethod yX11_underContract, Cond.selects RX11 yX11_underContract yX11_underContract, Cond.code yX11_underContract cX11_underContract 4 none, Cond.fieldLink RX11 43 "HiredEnemyModel" "breach" "[[I", Cond.methodLink RX11 203 yX11_shoots, Cond.instanceMethod yX11_shoots, Cond.selects RX11 yX11_shoots yX11_shoots, Cond.code yX11_shoots cX11_shoots 7 none, Cond.fieldLink RX11 192 "HiredEnemyModel" "isReal" "Z", Cond.fieldLink RX11 55 "HiredEnemyModel" "shot" "[[I", Cond.fieldLink RX11 31 "HiredEnemyModel" "wall" "[[I", Cond.methodLink RX11 189 yX11_weakest, Cond.instanceMethod yX11_weakest, Cond.selects RX11 yX11_weakest yX11_weakest, Cond.code yX11_weakest cX11_weakest 3 (some .int), Cond.methodLink RX11 196 yX11_fears, Cond.instanceMethod yX11_fears, Cond.selects RX11 yX11_fears yX11_fears, Cond.code yX11_fears cX11_fears 2 none, Cond.methodLink RX11 210 yX11_mends, Cond.instanceMethod yX11_mends, Cond.selects RX11 yX11_mends yX11_mends]
def wsX11_would_r4 : List Cond := [Cond.code yX11_mends cX11_mends 4 none, Cond.methodLink RX11 213 yX11_deserts, Cond.instanceMethod yX11_deserts, Cond.selects RX11 yX11_deserts yX11_deserts, Cond.code yX11_deserts cX11_deserts 4 none, Cond.methodLink RX11 225 yX11_takes, Cond.instanceMethod yX11_takes, Cond.selects RX11 yX11_takes yX11_takes, Cond.code yX11_takes cX11_takes 2 none]
def wsX11_would : List Cond := .code yX11_would cX11_would 4 (some .int) :: ((wsX11_would_r1 ++ (wsX11_would_r2 ++ (wsX11_would_r3 ++ wsX11_would_r4))) ++ wsX110)
def wsX11_best_r1 : List Cond := [Cond.fieldLink RX11 85 "HiredEnemyModel" "thrown" "I", Cond.fieldLink RX11 162 "HiredEnemyModel" "contracts" "I", Cond.methodLink RX11 228 yX11_areMonths, Cond.static yX11_areMonths, Cond.initialized RX11, Cond.code yX11_areMonths cX11_areMonths 1 (some .boolean), Cond.methodLink RX11 119 yX11_in, Cond.static yX11_in, Cond.code yX11_in cX11_in 3 (some .boolean), Cond.methodLink RX11 151 yX11_bad, Cond.instanceMethod yX11_bad, Cond.selects RX11 yX11_bad yX11_bad, Cond.code yX11_bad cX11_bad 4 (some .boolean), Cond.fieldLink RX11 17 "HiredEnemyModel" "refused" "[I", Cond.methodLink RX11 231 yX11_by, Cond.instanceMethod yX11_by, Cond.selects RX11 yX11_by yX11_by, Cond.code yX11_by cX11_by 5 (some .int), Cond.fieldLink RX11 46 "HiredEnemyModel" "s" "[I", Cond.methodLink RX11 219 yX11_puts, Cond.instanceMethod yX11_puts, Cond.selects RX11 yX11_puts yX11_puts, Cond.code yX11_puts cX11_puts 2 none, Cond.fieldLink RX11 49 "HiredEnemyModel" "aside" "[I"]
def wsX11_best_r2 : List Cond := [Cond.methodLink RX11 183 yX11_signs, Cond.instanceMethod yX11_signs, Cond.selects RX11 yX11_signs yX11_signs, Cond.code yX11_signs cX11_signs 2 none, Cond.methodLink RX11 222 yX11_goesOn, Cond.instanceMethod yX11_goesOn, Cond.selects RX11 yX11_goesOn yX11_goesOn, Cond.code yX11_goesOn cX11_goesOn 3 none, Cond.methodLink RX11 216 yX11_monthGoes, Cond.instanceMethod yX11_monthGoes, Cond.selects RX11 yX11_monthGoes yX11_monthGoes, Cond.code yX11_monthGoes cX11_monthGoes 1 none, Cond.fieldLink RX11 23 "HiredEnemyModel" "told" "[I", Cond.fieldLink RX11 40 "HiredEnemyModel" "contract" "[[I", Cond.methodLink RX11 199 yX11_pays, Cond.instanceMethod yX11_pays, Cond.selects RX11 yX11_pays yX11_pays, Cond.code yX11_pays cX11_pays 5 none, Cond.methodLink RX11 186 yX11_less, Cond.static yX11_less, Cond.code yX11_less cX11_less 2 (some .int), Cond.methodLink RX11 207 yX11_underContract, Cond.instanceMethod yX11_underContract, Cond.selects RX11 yX11_underContract yX11_underContract]
def wsX11_best_r3 : List Cond := [Cond.code yX11_underContract cX11_underContract 4 none, Cond.fieldLink RX11 43 "HiredEnemyModel" "breach" "[[I", Cond.methodLink RX11 203 yX11_shoots, Cond.instanceMethod yX11_shoots, Cond.selects RX11 yX11_shoots yX11_shoots, Cond.code yX11_shoots cX11_shoots 7 none, Cond.fieldLink RX11 192 "HiredEnemyModel" "isReal" "Z", Cond.fieldLink RX11 55 "HiredEnemyModel" "shot" "[[I", Cond.fieldLink RX11 31 "HiredEnemyModel" "wall" "[[I", Cond.methodLink RX11 189 yX11_weakest, Cond.instanceMethod yX11_weakest, Cond.selects RX11 yX11_weakest yX11_weakest, Cond.code yX11_weakest cX11_weakest 3 (some .int), Cond.methodLink RX11 196 yX11_fears, Cond.instanceMethod yX11_fears, Cond.selects RX11 yX11_fears yX11_fears, Cond.code yX11_fears cX11_fears 2 none, Cond.methodLink RX11 210 yX11_mends, Cond.instanceMethod yX11_mends, Cond.selects RX11 yX11_mends yX11_mends, Cond.code yX11_mends cX11_mends 4 none, Cond.methodLink RX11 213 yX11_deserts, Cond.instanceMethod yX11_deserts, Cond.selects RX11 yX11_deserts yX11_deserts]
def wsX11_best_r4 : List Cond := [Cond.code yX11_deserts cX11_deserts 4 none, Cond.methodLink RX11 225 yX11_takes, Cond.instanceMethod yX11_takes, Cond.selects RX11 yX11_takes yX11_takes, Cond.code yX11_takes cX11_takes 2 none]
def wsX11_best : List Cond := .code yX11_best cX11_best 7 (some .int) :: ((wsX11_best_r1 ++ (wsX11_best_r2 ++ (wsX11_best_r3 ++ wsX11_best_r4))) ++ wsX110)
def wsX11_byOffer_r1 : List Cond := [Cond.fieldLink RX11 46 "HiredEnemyModel" "s" "[I", Cond.methodLink RX11 219 yX11_puts, Cond.instanceMethod yX11_puts, Cond.selects RX11 yX11_puts yX11_puts, Cond.initialized RX11, Cond.code yX11_puts cX11_puts 2 none, Cond.fieldLink RX11 49 "HiredEnemyModel" "aside" "[I", Cond.methodLink RX11 183 yX11_signs, Cond.instanceMethod yX11_signs, Cond.selects RX11 yX11_signs yX11_signs, Cond.code yX11_signs cX11_signs 2 none, Cond.methodLink RX11 216 yX11_monthGoes, Cond.instanceMethod yX11_monthGoes, Cond.selects RX11 yX11_monthGoes yX11_monthGoes, Cond.code yX11_monthGoes cX11_monthGoes 1 none, Cond.fieldLink RX11 23 "HiredEnemyModel" "told" "[I", Cond.fieldLink RX11 40 "HiredEnemyModel" "contract" "[[I", Cond.methodLink RX11 199 yX11_pays, Cond.instanceMethod yX11_pays, Cond.selects RX11 yX11_pays yX11_pays, Cond.code yX11_pays cX11_pays 5 none, Cond.methodLink RX11 186 yX11_less, Cond.static yX11_less, Cond.code yX11_less cX11_less 2 (some .int)]
def wsX11_byOffer_r2 : List Cond := [Cond.methodLink RX11 207 yX11_underContract, Cond.instanceMethod yX11_underContract, Cond.selects RX11 yX11_underContract yX11_underContract, Cond.code yX11_underContract cX11_underContract 4 none, Cond.fieldLink RX11 43 "HiredEnemyModel" "breach" "[[I", Cond.methodLink RX11 203 yX11_shoots, Cond.instanceMethod yX11_shoots, Cond.selects RX11 yX11_shoots yX11_shoots, Cond.code yX11_shoots cX11_shoots 7 none, Cond.fieldLink RX11 192 "HiredEnemyModel" "isReal" "Z", Cond.fieldLink RX11 55 "HiredEnemyModel" "shot" "[[I", Cond.fieldLink RX11 31 "HiredEnemyModel" "wall" "[[I", Cond.methodLink RX11 189 yX11_weakest, Cond.instanceMethod yX11_weakest, Cond.selects RX11 yX11_weakest yX11_weakest, Cond.code yX11_weakest cX11_weakest 3 (some .int), Cond.methodLink RX11 196 yX11_fears, Cond.instanceMethod yX11_fears, Cond.selects RX11 yX11_fears yX11_fears, Cond.code yX11_fears cX11_fears 2 none, Cond.methodLink RX11 210 yX11_mends, Cond.instanceMethod yX11_mends, Cond.selects RX11 yX11_mends yX11_mends, Cond.code yX11_mends cX11_mends 4 none]
def wsX11_byOffer_r3 : List Cond := [Cond.methodLink RX11 213 yX11_deserts, Cond.instanceMethod yX11_deserts, Cond.selects RX11 yX11_deserts yX11_deserts, Cond.code yX11_deserts cX11_deserts 4 none, Cond.methodLink RX11 225 yX11_takes, Cond.instanceMethod yX11_takes, Cond.selects RX11 yX11_takes yX11_takes, Cond.code yX11_takes cX11_takes 2 none]
def wsX11_byOffer : List Cond := .code yX11_byOffer cX11_byOffer 3 (some .int) :: ((wsX11_byOffer_r1 ++ (wsX11_byOffer_r2 ++ wsX11_byOffer_r3)) ++ wsX110)
def wsX11_offer_r1 : List Cond := [Cond.fieldLink RX11 85 "HiredEnemyModel" "thrown" "I", Cond.fieldLink RX11 40 "HiredEnemyModel" "contract" "[[I", Cond.fieldLink RX11 43 "HiredEnemyModel" "breach" "[[I", Cond.methodLink RX11 228 yX11_areMonths, Cond.static yX11_areMonths, Cond.initialized RX11, Cond.code yX11_areMonths cX11_areMonths 1 (some .boolean), Cond.methodLink RX11 119 yX11_in, Cond.static yX11_in, Cond.code yX11_in cX11_in 3 (some .boolean), Cond.methodLink RX11 151 yX11_bad, Cond.instanceMethod yX11_bad, Cond.selects RX11 yX11_bad yX11_bad, Cond.code yX11_bad cX11_bad 4 (some .boolean), Cond.fieldLink RX11 17 "HiredEnemyModel" "refused" "[I", Cond.methodLink RX11 180 yX11_wantsFor, Cond.instanceMethod yX11_wantsFor, Cond.selects RX11 yX11_wantsFor yX11_wantsFor, Cond.code yX11_wantsFor cX11_wantsFor 3 (some .int), Cond.fieldLink RX11 23 "HiredEnemyModel" "told" "[I", Cond.methodLink RX11 235 yX11_byOffer, Cond.instanceMethod yX11_byOffer, Cond.selects RX11 yX11_byOffer yX11_byOffer, Cond.code yX11_byOffer cX11_byOffer 3 (some .int)]
def wsX11_offer_r2 : List Cond := [Cond.fieldLink RX11 46 "HiredEnemyModel" "s" "[I", Cond.methodLink RX11 219 yX11_puts, Cond.instanceMethod yX11_puts, Cond.selects RX11 yX11_puts yX11_puts, Cond.code yX11_puts cX11_puts 2 none, Cond.fieldLink RX11 49 "HiredEnemyModel" "aside" "[I", Cond.methodLink RX11 183 yX11_signs, Cond.instanceMethod yX11_signs, Cond.selects RX11 yX11_signs yX11_signs, Cond.code yX11_signs cX11_signs 2 none, Cond.methodLink RX11 216 yX11_monthGoes, Cond.instanceMethod yX11_monthGoes, Cond.selects RX11 yX11_monthGoes yX11_monthGoes, Cond.code yX11_monthGoes cX11_monthGoes 1 none, Cond.methodLink RX11 199 yX11_pays, Cond.instanceMethod yX11_pays, Cond.selects RX11 yX11_pays yX11_pays, Cond.code yX11_pays cX11_pays 5 none, Cond.methodLink RX11 186 yX11_less, Cond.static yX11_less, Cond.code yX11_less cX11_less 2 (some .int), Cond.methodLink RX11 207 yX11_underContract, Cond.instanceMethod yX11_underContract, Cond.selects RX11 yX11_underContract yX11_underContract]
def wsX11_offer_r3 : List Cond := [Cond.code yX11_underContract cX11_underContract 4 none, Cond.methodLink RX11 203 yX11_shoots, Cond.instanceMethod yX11_shoots, Cond.selects RX11 yX11_shoots yX11_shoots, Cond.code yX11_shoots cX11_shoots 7 none, Cond.fieldLink RX11 192 "HiredEnemyModel" "isReal" "Z", Cond.fieldLink RX11 55 "HiredEnemyModel" "shot" "[[I", Cond.fieldLink RX11 31 "HiredEnemyModel" "wall" "[[I", Cond.methodLink RX11 189 yX11_weakest, Cond.instanceMethod yX11_weakest, Cond.selects RX11 yX11_weakest yX11_weakest, Cond.code yX11_weakest cX11_weakest 3 (some .int), Cond.methodLink RX11 196 yX11_fears, Cond.instanceMethod yX11_fears, Cond.selects RX11 yX11_fears yX11_fears, Cond.code yX11_fears cX11_fears 2 none, Cond.methodLink RX11 210 yX11_mends, Cond.instanceMethod yX11_mends, Cond.selects RX11 yX11_mends yX11_mends, Cond.code yX11_mends cX11_mends 4 none, Cond.methodLink RX11 213 yX11_deserts, Cond.instanceMethod yX11_deserts, Cond.selects RX11 yX11_deserts yX11_deserts, Cond.code yX11_deserts cX11_deserts 4 none]
def wsX11_offer_r4 : List Cond := [Cond.methodLink RX11 225 yX11_takes, Cond.instanceMethod yX11_takes, Cond.selects RX11 yX11_takes yX11_takes, Cond.code yX11_takes cX11_takes 2 none]
def wsX11_offer : List Cond := .code yX11_offer cX11_offer 10 (some .int) :: ((wsX11_offer_r1 ++ (wsX11_offer_r2 ++ (wsX11_offer_r3 ++ wsX11_offer_r4))) ++ wsX110)
def wsX11_nearest : List Cond := .code yX11_nearest cX11_nearest 4 (some .int) :: ([.fieldLink RX11 85 "HiredEnemyModel" "thrown" "I", .methodLink RX11 119 yX11_in, .static yX11_in, .initialized RX11, .code yX11_in cX11_in 3 (some .boolean), .methodLink RX11 151 yX11_bad, .instanceMethod yX11_bad, .selects RX11 yX11_bad yX11_bad, .code yX11_bad cX11_bad 4 (some .boolean), .fieldLink RX11 17 "HiredEnemyModel" "refused" "[I", .methodLink RX11 180 yX11_wantsFor, .instanceMethod yX11_wantsFor, .selects RX11 yX11_wantsFor yX11_wantsFor, .code yX11_wantsFor cX11_wantsFor 3 (some .int), .fieldLink RX11 23 "HiredEnemyModel" "told" "[I"] ++ wsX110)
def wsX11_stop_r1 : List Cond := [Cond.fieldLink RX11 85 "HiredEnemyModel" "thrown" "I", Cond.fieldLink RX11 46 "HiredEnemyModel" "s" "[I", Cond.methodLink RX11 228 yX11_areMonths, Cond.static yX11_areMonths, Cond.initialized RX11, Cond.code yX11_areMonths cX11_areMonths 1 (some .boolean), Cond.methodLink RX11 119 yX11_in, Cond.static yX11_in, Cond.code yX11_in cX11_in 3 (some .boolean), Cond.methodLink RX11 151 yX11_bad, Cond.instanceMethod yX11_bad, Cond.selects RX11 yX11_bad yX11_bad, Cond.code yX11_bad cX11_bad 4 (some .boolean), Cond.fieldLink RX11 17 "HiredEnemyModel" "refused" "[I", Cond.methodLink RX11 219 yX11_puts, Cond.instanceMethod yX11_puts, Cond.selects RX11 yX11_puts yX11_puts, Cond.code yX11_puts cX11_puts 2 none, Cond.fieldLink RX11 49 "HiredEnemyModel" "aside" "[I", Cond.methodLink RX11 222 yX11_goesOn, Cond.instanceMethod yX11_goesOn, Cond.selects RX11 yX11_goesOn yX11_goesOn, Cond.code yX11_goesOn cX11_goesOn 3 none, Cond.methodLink RX11 216 yX11_monthGoes]
def wsX11_stop_r2 : List Cond := [Cond.instanceMethod yX11_monthGoes, Cond.selects RX11 yX11_monthGoes yX11_monthGoes, Cond.code yX11_monthGoes cX11_monthGoes 1 none, Cond.fieldLink RX11 23 "HiredEnemyModel" "told" "[I", Cond.fieldLink RX11 40 "HiredEnemyModel" "contract" "[[I", Cond.methodLink RX11 199 yX11_pays, Cond.instanceMethod yX11_pays, Cond.selects RX11 yX11_pays yX11_pays, Cond.code yX11_pays cX11_pays 5 none, Cond.methodLink RX11 186 yX11_less, Cond.static yX11_less, Cond.code yX11_less cX11_less 2 (some .int), Cond.methodLink RX11 207 yX11_underContract, Cond.instanceMethod yX11_underContract, Cond.selects RX11 yX11_underContract yX11_underContract, Cond.code yX11_underContract cX11_underContract 4 none, Cond.fieldLink RX11 43 "HiredEnemyModel" "breach" "[[I", Cond.methodLink RX11 183 yX11_signs, Cond.instanceMethod yX11_signs, Cond.selects RX11 yX11_signs yX11_signs, Cond.code yX11_signs cX11_signs 2 none, Cond.methodLink RX11 203 yX11_shoots, Cond.instanceMethod yX11_shoots, Cond.selects RX11 yX11_shoots yX11_shoots]
def wsX11_stop_r3 : List Cond := [Cond.code yX11_shoots cX11_shoots 7 none, Cond.fieldLink RX11 192 "HiredEnemyModel" "isReal" "Z", Cond.fieldLink RX11 55 "HiredEnemyModel" "shot" "[[I", Cond.fieldLink RX11 31 "HiredEnemyModel" "wall" "[[I", Cond.methodLink RX11 189 yX11_weakest, Cond.instanceMethod yX11_weakest, Cond.selects RX11 yX11_weakest yX11_weakest, Cond.code yX11_weakest cX11_weakest 3 (some .int), Cond.methodLink RX11 196 yX11_fears, Cond.instanceMethod yX11_fears, Cond.selects RX11 yX11_fears yX11_fears, Cond.code yX11_fears cX11_fears 2 none, Cond.methodLink RX11 210 yX11_mends, Cond.instanceMethod yX11_mends, Cond.selects RX11 yX11_mends yX11_mends, Cond.code yX11_mends cX11_mends 4 none, Cond.methodLink RX11 213 yX11_deserts, Cond.instanceMethod yX11_deserts, Cond.selects RX11 yX11_deserts yX11_deserts, Cond.code yX11_deserts cX11_deserts 4 none, Cond.methodLink RX11 225 yX11_takes, Cond.instanceMethod yX11_takes, Cond.selects RX11 yX11_takes yX11_takes, Cond.code yX11_takes cX11_takes 2 none]
def wsX11_stop : List Cond := .code yX11_stop cX11_stop 7 (some .int) :: ((wsX11_stop_r1 ++ (wsX11_stop_r2 ++ wsX11_stop_r3)) ++ wsX110)
def wsX11_odds : List Cond := .code yX11_odds cX11_odds 3 none :: ([.fieldLink RX11 85 "HiredEnemyModel" "thrown" "I", .fieldLink RX11 58 "HiredEnemyModel" "oddsA" "I", .fieldLink RX11 61 "HiredEnemyModel" "oddsB" "I", .fieldLink RX11 165 "HiredEnemyModel" "things" "I", .methodLink RX11 119 yX11_in, .static yX11_in, .initialized RX11, .code yX11_in cX11_in 3 (some .boolean), .methodLink RX11 151 yX11_bad, .instanceMethod yX11_bad, .selects RX11 yX11_bad yX11_bad, .code yX11_bad cX11_bad 4 (some .boolean), .fieldLink RX11 17 "HiredEnemyModel" "refused" "[I"] ++ wsX110)
def wsX11_kind : List Cond := .code yX11_kind cX11_kind 4 none :: ([.fieldLink RX11 85 "HiredEnemyModel" "thrown" "I", .fieldLink RX11 64 "HiredEnemyModel" "kind" "[[I", .methodLink RX11 119 yX11_in, .static yX11_in, .initialized RX11, .code yX11_in cX11_in 3 (some .boolean), .methodLink RX11 151 yX11_bad, .instanceMethod yX11_bad, .selects RX11 yX11_bad yX11_bad, .code yX11_bad cX11_bad 4 (some .boolean), .fieldLink RX11 17 "HiredEnemyModel" "refused" "[I"] ++ wsX110)
def wsX11_isSeen : List Cond := .code yX11_isSeen cX11_isSeen 3 (some .int) :: ([.fieldLink RX11 165 "HiredEnemyModel" "things" "I", .fieldLink RX11 67 "HiredEnemyModel" "thing" "[[I"] ++ wsX110)
def wsX11_seen : List Cond := .code yX11_seen cX11_seen 2 (some .int) :: ([.fieldLink RX11 85 "HiredEnemyModel" "thrown" "I", .fieldLink RX11 64 "HiredEnemyModel" "kind" "[[I", .methodLink RX11 119 yX11_in, .static yX11_in, .initialized RX11, .code yX11_in cX11_in 3 (some .boolean), .methodLink RX11 151 yX11_bad, .instanceMethod yX11_bad, .selects RX11 yX11_bad yX11_bad, .code yX11_bad cX11_bad 4 (some .boolean), .fieldLink RX11 17 "HiredEnemyModel" "refused" "[I", .methodLink RX11 238 yX11_isSeen, .instanceMethod yX11_isSeen, .selects RX11 yX11_isSeen yX11_isSeen, .code yX11_isSeen cX11_isSeen 3 (some .int), .fieldLink RX11 165 "HiredEnemyModel" "things" "I", .fieldLink RX11 67 "HiredEnemyModel" "thing" "[[I"] ++ wsX110)
def wsX11_spy : List Cond := .code yX11_spy cX11_spy 3 (some .int) :: ([.fieldLink RX11 85 "HiredEnemyModel" "thrown" "I", .methodLink RX11 119 yX11_in, .static yX11_in, .initialized RX11, .code yX11_in cX11_in 3 (some .boolean), .methodLink RX11 151 yX11_bad, .instanceMethod yX11_bad, .selects RX11 yX11_bad yX11_bad, .code yX11_bad cX11_bad 4 (some .boolean), .fieldLink RX11 17 "HiredEnemyModel" "refused" "[I", .methodLink RX11 238 yX11_isSeen, .instanceMethod yX11_isSeen, .selects RX11 yX11_isSeen yX11_isSeen, .code yX11_isSeen cX11_isSeen 3 (some .int), .fieldLink RX11 165 "HiredEnemyModel" "things" "I", .fieldLink RX11 67 "HiredEnemyModel" "thing" "[[I"] ++ wsX110)
def wsX11_believed : List Cond := .code yX11_believed cX11_believed 12 (some .long) :: ([.fieldLink RX11 85 "HiredEnemyModel" "thrown" "I", .fieldLink RX11 58 "HiredEnemyModel" "oddsA" "I", .fieldLink RX11 61 "HiredEnemyModel" "oddsB" "I", .fieldLink RX11 165 "HiredEnemyModel" "things" "I", .fieldLink RX11 67 "HiredEnemyModel" "thing" "[[I", .methodLink RX11 119 yX11_in, .static yX11_in, .initialized RX11, .code yX11_in cX11_in 3 (some .boolean), .methodLink RX11 151 yX11_bad, .instanceMethod yX11_bad, .selects RX11 yX11_bad yX11_bad, .code yX11_bad cX11_bad 4 (some .boolean), .fieldLink RX11 17 "HiredEnemyModel" "refused" "[I"] ++ wsX110)
def wsX11_digit : List Cond := .code yX11_digit cX11_digit 2 (some .int) :: ([])
def wsX11_puts0 : List Cond := .code yX11_puts0 cX11_puts0 5 (some .boolean) :: ([.methodLink RX11 241 yX11_digit, .static yX11_digit, .initialized RX11, .code yX11_digit cX11_digit 2 (some .int)])
def wsX11_falls : List Cond := .code yX11_falls cX11_falls 6 (some .int) :: ([.fieldLink RX11 31 "HiredEnemyModel" "wall" "[[I", .methodLink RX11 241 yX11_digit, .static yX11_digit, .initialized RX11, .code yX11_digit cX11_digit 2 (some .int)] ++ wsX110)
def wsX11_firstWalls : List Cond := .code yX11_firstWalls cX11_firstWalls 1 (some .int) :: ([.fieldLink RX11 23 "HiredEnemyModel" "told" "[I", .methodLink RX11 186 yX11_less, .static yX11_less, .initialized RX11, .code yX11_less cX11_less 2 (some .int)] ++ wsX110)
def wsX11_safeBy : List Cond := .code yX11_safeBy cX11_safeBy 8 (some .int) :: ([.fieldLink RX11 244 "HiredEnemyModel" "safeRow" "I", .methodLink RX11 247 yX11_puts0, .static yX11_puts0, .initialized RX11, .code yX11_puts0 cX11_puts0 5 (some .boolean), .methodLink RX11 241 yX11_digit, .static yX11_digit, .code yX11_digit cX11_digit 2 (some .int), .methodLink RX11 250 yX11_falls, .instanceMethod yX11_falls, .selects RX11 yX11_falls yX11_falls, .code yX11_falls cX11_falls 6 (some .int), .fieldLink RX11 31 "HiredEnemyModel" "wall" "[[I"] ++ wsX110)
def wsX11_sureBy : List Cond := .code yX11_sureBy cX11_sureBy 8 (some .int) :: ([.methodLink RX11 247 yX11_puts0, .static yX11_puts0, .initialized RX11, .code yX11_puts0 cX11_puts0 5 (some .boolean), .methodLink RX11 241 yX11_digit, .static yX11_digit, .code yX11_digit cX11_digit 2 (some .int), .methodLink RX11 250 yX11_falls, .instanceMethod yX11_falls, .selects RX11 yX11_falls yX11_falls, .code yX11_falls cX11_falls 6 (some .int), .fieldLink RX11 31 "HiredEnemyModel" "wall" "[[I"] ++ wsX110)
def wsX11_areTens : List Cond := .code yX11_areTens cX11_areTens 2 (some .boolean) :: ([.methodLink RX11 119 yX11_in, .static yX11_in, .initialized RX11, .code yX11_in cX11_in 3 (some .boolean)])
def wsX11_earnest_r1 : List Cond := [Cond.fieldLink RX11 85 "HiredEnemyModel" "thrown" "I", Cond.methodLink RX11 253 yX11_areTens, Cond.static yX11_areTens, Cond.initialized RX11, Cond.code yX11_areTens cX11_areTens 2 (some .boolean), Cond.methodLink RX11 119 yX11_in, Cond.static yX11_in, Cond.code yX11_in cX11_in 3 (some .boolean), Cond.methodLink RX11 151 yX11_bad, Cond.instanceMethod yX11_bad, Cond.selects RX11 yX11_bad yX11_bad, Cond.code yX11_bad cX11_bad 4 (some .boolean), Cond.fieldLink RX11 17 "HiredEnemyModel" "refused" "[I", Cond.methodLink RX11 257 yX11_firstWalls, Cond.instanceMethod yX11_firstWalls, Cond.selects RX11 yX11_firstWalls yX11_firstWalls, Cond.code yX11_firstWalls cX11_firstWalls 1 (some .int), Cond.fieldLink RX11 23 "HiredEnemyModel" "told" "[I", Cond.methodLink RX11 186 yX11_less, Cond.static yX11_less, Cond.code yX11_less cX11_less 2 (some .int), Cond.methodLink RX11 260 yX11_safeBy, Cond.instanceMethod yX11_safeBy, Cond.selects RX11 yX11_safeBy yX11_safeBy]
def wsX11_earnest_r2 : List Cond := [Cond.code yX11_safeBy cX11_safeBy 8 (some .int), Cond.fieldLink RX11 244 "HiredEnemyModel" "safeRow" "I", Cond.methodLink RX11 247 yX11_puts0, Cond.static yX11_puts0, Cond.code yX11_puts0 cX11_puts0 5 (some .boolean), Cond.methodLink RX11 241 yX11_digit, Cond.static yX11_digit, Cond.code yX11_digit cX11_digit 2 (some .int), Cond.methodLink RX11 250 yX11_falls, Cond.instanceMethod yX11_falls, Cond.selects RX11 yX11_falls yX11_falls, Cond.code yX11_falls cX11_falls 6 (some .int), Cond.fieldLink RX11 31 "HiredEnemyModel" "wall" "[[I", Cond.methodLink RX11 263 yX11_sureBy, Cond.instanceMethod yX11_sureBy, Cond.selects RX11 yX11_sureBy yX11_sureBy, Cond.code yX11_sureBy cX11_sureBy 8 (some .int)]
def wsX11_earnest : List Cond := .code yX11_earnest cX11_earnest 4 (some .int) :: ((wsX11_earnest_r1 ++ wsX11_earnest_r2) ++ wsX110)
def wsX11_stands_r1 : List Cond := [Cond.fieldLink RX11 85 "HiredEnemyModel" "thrown" "I", Cond.fieldLink RX11 23 "HiredEnemyModel" "told" "[I", Cond.fieldLink RX11 244 "HiredEnemyModel" "safeRow" "I", Cond.methodLink RX11 253 yX11_areTens, Cond.static yX11_areTens, Cond.initialized RX11, Cond.code yX11_areTens cX11_areTens 2 (some .boolean), Cond.methodLink RX11 119 yX11_in, Cond.static yX11_in, Cond.code yX11_in cX11_in 3 (some .boolean), Cond.methodLink RX11 151 yX11_bad, Cond.instanceMethod yX11_bad, Cond.selects RX11 yX11_bad yX11_bad, Cond.code yX11_bad cX11_bad 4 (some .boolean), Cond.fieldLink RX11 17 "HiredEnemyModel" "refused" "[I", Cond.methodLink RX11 257 yX11_firstWalls, Cond.instanceMethod yX11_firstWalls, Cond.selects RX11 yX11_firstWalls yX11_firstWalls, Cond.code yX11_firstWalls cX11_firstWalls 1 (some .int), Cond.methodLink RX11 186 yX11_less, Cond.static yX11_less, Cond.code yX11_less cX11_less 2 (some .int), Cond.methodLink RX11 260 yX11_safeBy, Cond.instanceMethod yX11_safeBy]
def wsX11_stands_r2 : List Cond := [Cond.selects RX11 yX11_safeBy yX11_safeBy, Cond.code yX11_safeBy cX11_safeBy 8 (some .int), Cond.methodLink RX11 247 yX11_puts0, Cond.static yX11_puts0, Cond.code yX11_puts0 cX11_puts0 5 (some .boolean), Cond.methodLink RX11 241 yX11_digit, Cond.static yX11_digit, Cond.code yX11_digit cX11_digit 2 (some .int), Cond.methodLink RX11 250 yX11_falls, Cond.instanceMethod yX11_falls, Cond.selects RX11 yX11_falls yX11_falls, Cond.code yX11_falls cX11_falls 6 (some .int), Cond.fieldLink RX11 31 "HiredEnemyModel" "wall" "[[I"]
def wsX11_stands : List Cond := .code yX11_stands cX11_stands 5 (some .int) :: ((wsX11_stands_r1 ++ wsX11_stands_r2) ++ wsX110)
def wsX11_show_r1 : List Cond := [Cond.fieldLink RX11 85 "HiredEnemyModel" "thrown" "I", Cond.methodLink RX11 253 yX11_areTens, Cond.static yX11_areTens, Cond.initialized RX11, Cond.code yX11_areTens cX11_areTens 2 (some .boolean), Cond.methodLink RX11 119 yX11_in, Cond.static yX11_in, Cond.code yX11_in cX11_in 3 (some .boolean), Cond.methodLink RX11 151 yX11_bad, Cond.instanceMethod yX11_bad, Cond.selects RX11 yX11_bad yX11_bad, Cond.code yX11_bad cX11_bad 4 (some .boolean), Cond.fieldLink RX11 17 "HiredEnemyModel" "refused" "[I", Cond.methodLink RX11 257 yX11_firstWalls, Cond.instanceMethod yX11_firstWalls, Cond.selects RX11 yX11_firstWalls yX11_firstWalls, Cond.code yX11_firstWalls cX11_firstWalls 1 (some .int), Cond.fieldLink RX11 23 "HiredEnemyModel" "told" "[I", Cond.methodLink RX11 186 yX11_less, Cond.static yX11_less, Cond.code yX11_less cX11_less 2 (some .int), Cond.methodLink RX11 260 yX11_safeBy, Cond.instanceMethod yX11_safeBy, Cond.selects RX11 yX11_safeBy yX11_safeBy]
def wsX11_show_r2 : List Cond := [Cond.code yX11_safeBy cX11_safeBy 8 (some .int), Cond.fieldLink RX11 244 "HiredEnemyModel" "safeRow" "I", Cond.methodLink RX11 247 yX11_puts0, Cond.static yX11_puts0, Cond.code yX11_puts0 cX11_puts0 5 (some .boolean), Cond.methodLink RX11 241 yX11_digit, Cond.static yX11_digit, Cond.code yX11_digit cX11_digit 2 (some .int), Cond.methodLink RX11 250 yX11_falls, Cond.instanceMethod yX11_falls, Cond.selects RX11 yX11_falls yX11_falls, Cond.code yX11_falls cX11_falls 6 (some .int), Cond.fieldLink RX11 31 "HiredEnemyModel" "wall" "[[I"]
def wsX11_show : List Cond := .code yX11_show cX11_show 7 (some .int) :: ((wsX11_show_r1 ++ wsX11_show_r2) ++ wsX110)
def wsX11_offers : List Cond := .code yX11_offers cX11_offers 5 (some .int) :: ([.fieldLink RX11 85 "HiredEnemyModel" "thrown" "I", .fieldLink RX11 70 "HiredEnemyModel" "offered" "[[I", .methodLink RX11 119 yX11_in, .static yX11_in, .initialized RX11, .code yX11_in cX11_in 3 (some .boolean), .methodLink RX11 151 yX11_bad, .instanceMethod yX11_bad, .selects RX11 yX11_bad yX11_bad, .code yX11_bad cX11_bad 4 (some .boolean), .fieldLink RX11 17 "HiredEnemyModel" "refused" "[I"] ++ wsX110)
def wsX11_mayServe : List Cond := .code yX11_mayServe cX11_mayServe 2 (some .boolean) :: ([])
def wsX11_laysRest : List Cond := .code yX11_laysRest cX11_laysRest 5 none :: ([.fieldLink RX11 76 "HiredEnemyModel" "rest" "[[I", .fieldLink RX11 70 "HiredEnemyModel" "offered" "[[I", .methodLink RX11 266 yX11_mayServe, .static yX11_mayServe, .initialized RX11, .code yX11_mayServe cX11_mayServe 2 (some .boolean)] ++ wsX110)
def wsX11_mostNow : List Cond := .code yX11_mostNow cX11_mostNow 3 (some .int) :: ([.fieldLink RX11 76 "HiredEnemyModel" "rest" "[[I", .methodLink RX11 269 yX11_laysRest, .instanceMethod yX11_laysRest, .selects RX11 yX11_laysRest yX11_laysRest, .initialized RX11, .code yX11_laysRest cX11_laysRest 5 none, .fieldLink RX11 70 "HiredEnemyModel" "offered" "[[I", .methodLink RX11 266 yX11_mayServe, .static yX11_mayServe, .code yX11_mayServe cX11_mayServe 2 (some .boolean)] ++ wsX110)
def wsX11_most : List Cond := .code yX11_most cX11_most 1 (some .int) :: ([.fieldLink RX11 85 "HiredEnemyModel" "thrown" "I", .methodLink RX11 272 yX11_mostNow, .instanceMethod yX11_mostNow, .selects RX11 yX11_mostNow yX11_mostNow, .initialized RX11, .code yX11_mostNow cX11_mostNow 3 (some .int), .fieldLink RX11 76 "HiredEnemyModel" "rest" "[[I", .methodLink RX11 269 yX11_laysRest, .instanceMethod yX11_laysRest, .selects RX11 yX11_laysRest yX11_laysRest, .code yX11_laysRest cX11_laysRest 5 none, .fieldLink RX11 70 "HiredEnemyModel" "offered" "[[I", .methodLink RX11 266 yX11_mayServe, .static yX11_mayServe, .code yX11_mayServe cX11_mayServe 2 (some .boolean)] ++ wsX110)
def wsX11_serves : List Cond := .code yX11_serves cX11_serves 6 (some .int) :: ([.fieldLink RX11 85 "HiredEnemyModel" "thrown" "I", .fieldLink RX11 76 "HiredEnemyModel" "rest" "[[I", .fieldLink RX11 70 "HiredEnemyModel" "offered" "[[I", .methodLink RX11 119 yX11_in, .static yX11_in, .initialized RX11, .code yX11_in cX11_in 3 (some .boolean), .methodLink RX11 151 yX11_bad, .instanceMethod yX11_bad, .selects RX11 yX11_bad yX11_bad, .code yX11_bad cX11_bad 4 (some .boolean), .fieldLink RX11 17 "HiredEnemyModel" "refused" "[I", .methodLink RX11 272 yX11_mostNow, .instanceMethod yX11_mostNow, .selects RX11 yX11_mostNow yX11_mostNow, .code yX11_mostNow cX11_mostNow 3 (some .int), .methodLink RX11 269 yX11_laysRest, .instanceMethod yX11_laysRest, .selects RX11 yX11_laysRest yX11_laysRest, .code yX11_laysRest cX11_laysRest 5 none, .methodLink RX11 266 yX11_mayServe, .static yX11_mayServe, .code yX11_mayServe cX11_mayServe 2 (some .boolean)] ++ wsX110)
def wsX11_moves : List Cond := .code yX11_moves cX11_moves 4 (some .int) :: ([.fieldLink RX11 275 "HiredEnemyModel" "spot" "I"] ++ wsX110)
def wsX11_movesAll : List Cond := .code yX11_movesAll cX11_movesAll 5 none :: ([.fieldLink RX11 275 "HiredEnemyModel" "spot" "I", .fieldLink RX11 58 "HiredEnemyModel" "oddsA" "I", .fieldLink RX11 61 "HiredEnemyModel" "oddsB" "I", .fieldLink RX11 165 "HiredEnemyModel" "things" "I", .fieldLink RX11 64 "HiredEnemyModel" "kind" "[[I", .fieldLink RX11 67 "HiredEnemyModel" "thing" "[[I", .fieldLink RX11 70 "HiredEnemyModel" "offered" "[[I", .fieldLink RX11 46 "HiredEnemyModel" "s" "[I", .fieldLink RX11 52 "HiredEnemyModel" "gone" "[[I", .fieldLink RX11 55 "HiredEnemyModel" "shot" "[[I", .methodLink RX11 278 yX11_moves, .instanceMethod yX11_moves, .selects RX11 yX11_moves yX11_moves, .initialized RX11, .code yX11_moves cX11_moves 4 (some .int)] ++ wsX110)
def wsX11_image : List Cond := .code yX11_image cX11_image 1 (some .int) :: ([.fieldLink RX11 85 "HiredEnemyModel" "thrown" "I", .fieldLink RX11 168 "HiredEnemyModel" "images" "I", .fieldLink RX11 73 "HiredEnemyModel" "kept" "[[I", .methodLink RX11 282 yX11_movesAll, .instanceMethod yX11_movesAll, .selects RX11 yX11_movesAll yX11_movesAll, .initialized RX11, .code yX11_movesAll cX11_movesAll 5 none, .fieldLink RX11 275 "HiredEnemyModel" "spot" "I", .fieldLink RX11 58 "HiredEnemyModel" "oddsA" "I", .fieldLink RX11 61 "HiredEnemyModel" "oddsB" "I", .fieldLink RX11 165 "HiredEnemyModel" "things" "I", .fieldLink RX11 64 "HiredEnemyModel" "kind" "[[I", .fieldLink RX11 67 "HiredEnemyModel" "thing" "[[I", .fieldLink RX11 70 "HiredEnemyModel" "offered" "[[I", .fieldLink RX11 46 "HiredEnemyModel" "s" "[I", .fieldLink RX11 52 "HiredEnemyModel" "gone" "[[I", .fieldLink RX11 55 "HiredEnemyModel" "shot" "[[I", .methodLink RX11 278 yX11_moves, .instanceMethod yX11_moves, .selects RX11 yX11_moves yX11_moves, .code yX11_moves cX11_moves 4 (some .int)] ++ wsX110)
def wsX11_restore : List Cond := .code yX11_restore cX11_restore 1 (some .int) :: ([.fieldLink RX11 85 "HiredEnemyModel" "thrown" "I", .fieldLink RX11 168 "HiredEnemyModel" "images" "I", .fieldLink RX11 73 "HiredEnemyModel" "kept" "[[I", .methodLink RX11 282 yX11_movesAll, .instanceMethod yX11_movesAll, .selects RX11 yX11_movesAll yX11_movesAll, .initialized RX11, .code yX11_movesAll cX11_movesAll 5 none, .fieldLink RX11 275 "HiredEnemyModel" "spot" "I", .fieldLink RX11 58 "HiredEnemyModel" "oddsA" "I", .fieldLink RX11 61 "HiredEnemyModel" "oddsB" "I", .fieldLink RX11 165 "HiredEnemyModel" "things" "I", .fieldLink RX11 64 "HiredEnemyModel" "kind" "[[I", .fieldLink RX11 67 "HiredEnemyModel" "thing" "[[I", .fieldLink RX11 70 "HiredEnemyModel" "offered" "[[I", .fieldLink RX11 46 "HiredEnemyModel" "s" "[I", .fieldLink RX11 52 "HiredEnemyModel" "gone" "[[I", .fieldLink RX11 55 "HiredEnemyModel" "shot" "[[I", .methodLink RX11 278 yX11_moves, .instanceMethod yX11_moves, .selects RX11 yX11_moves yX11_moves, .code yX11_moves cX11_moves 4 (some .int)] ++ wsX110)
def wsX11_status : List Cond := .code yX11_status cX11_status 2 (some .int) :: ([.fieldLink RX11 85 "HiredEnemyModel" "thrown" "I", .fieldLink RX11 17 "HiredEnemyModel" "refused" "[I", .methodLink RX11 119 yX11_in, .static yX11_in, .initialized RX11, .code yX11_in cX11_in 3 (some .boolean)] ++ wsX110)
def wsX11_count : List Cond := .code yX11_count cX11_count 2 (some .int) :: ([.fieldLink RX11 85 "HiredEnemyModel" "thrown" "I", .fieldLink RX11 168 "HiredEnemyModel" "images" "I", .fieldLink RX11 88 "HiredEnemyModel" "tape" "I", .fieldLink RX11 165 "HiredEnemyModel" "things" "I"] ++ wsX110)
def wsJ9_abs_0f7a4 : List Cond := .code yJ9_abs_0f7a4 cJ9_abs_0f7a4 1 (some .int) :: ([])
def wsJ9_max_7cf53 : List Cond := .code yJ9_max_7cf53 cJ9_max_7cf53 2 (some .int) :: ([])
def wsJ9_min_7cf53 : List Cond := .code yJ9_min_7cf53 cJ9_min_7cf53 2 (some .int) :: ([])
theorem dX0_init_0 : decode cX0_init 0 = .ok (.aload_n 0, 1) := sorry
theorem dX0_init_1 : decode cX0_init 1 = .ok (.invokespecial 3, 3) := sorry
theorem dX0_init_4 : decode cX0_init 4 = .ok (.aload_n 0, 1) := sorry
theorem dX0_init_5 : decode cX0_init 5 = .ok (.sipush 3600, 3) := sorry
theorem dX0_init_8 : decode cX0_init 8 = .ok (.newarray .int, 2) := sorry
theorem dX0_init_10 : decode cX0_init 10 = .ok (.putfield 11, 3) := sorry
theorem dX0_init_13 : decode cX0_init 13 = .ok (.return_, 1) := sorry
set_option maxRecDepth 20000 in
theorem ggX0_keep_X10_within : GoodIn wsX0_keep wsX10_within := sorry
set_option maxRecDepth 20000 in
theorem gX0_keep_X10_within_n21 : GoodIn wsX0_keep (wsX10_within) := sorry
theorem dX0_keep_0 : decode cX0_keep 0 = .ok (.aload_n 1, 1) := sorry
theorem dX0_keep_1 : decode cX0_keep 1 = .ok (.getfield 15, 3) := sorry
theorem dX0_keep_4 : decode cX0_keep 4 = .ok (.iconst 0, 1) := sorry
theorem dX0_keep_5 : decode cX0_keep 5 = .ok (.bipush 119, 2) := sorry
theorem dX0_keep_7 : decode cX0_keep 7 = .ok (.invokestatic 21, 3) := sorry
theorem dX0_keep_10 : decode cX0_keep 10 = .ok (.ifCond .eq 24, 3) := sorry
theorem dX0_keep_13 : decode cX0_keep 13 = .ok (.aload_n 1, 1) := sorry
theorem dX0_keep_14 : decode cX0_keep 14 = .ok (.getfield 25, 3) := sorry
theorem dX0_keep_17 : decode cX0_keep 17 = .ok (.iconst 0, 1) := sorry
theorem dX0_keep_18 : decode cX0_keep 18 = .ok (.aload_n 0, 1) := sorry
theorem dX0_keep_19 : decode cX0_keep 19 = .ok (.getfield 11, 3) := sorry
theorem dX0_keep_22 : decode cX0_keep 22 = .ok (.aload_n 1, 1) := sorry
theorem dX0_keep_23 : decode cX0_keep 23 = .ok (.getfield 15, 3) := sorry
theorem dX0_keep_26 : decode cX0_keep 26 = .ok (.bipush 30, 2) := sorry
theorem dX0_keep_28 : decode cX0_keep 28 = .ok (.imul, 1) := sorry
theorem dX0_keep_29 : decode cX0_keep 29 = .ok (.bipush 24, 2) := sorry
theorem dX0_keep_31 : decode cX0_keep 31 = .ok (.invokestatic 28, 3) := sorry
theorem dX0_keep_34 : decode cX0_keep 34 = .ok (.return_, 1) := sorry
set_option maxRecDepth 20000 in
theorem ggX0_lead_X10_within : GoodIn wsX0_lead wsX10_within := sorry
set_option maxRecDepth 20000 in
theorem gX0_lead_X10_within_n21 : GoodIn wsX0_lead (wsX10_within) := sorry
theorem dX0_lead_0 : decode cX0_lead 0 = .ok (.aload_n 1, 1) := sorry
theorem dX0_lead_1 : decode cX0_lead 1 = .ok (.getfield 15, 3) := sorry
theorem dX0_lead_4 : decode cX0_lead 4 = .ok (.iconst 1, 1) := sorry
theorem dX0_lead_5 : decode cX0_lead 5 = .ok (.bipush 120, 2) := sorry
theorem dX0_lead_7 : decode cX0_lead 7 = .ok (.invokestatic 21, 3) := sorry
theorem dX0_lead_10 : decode cX0_lead 10 = .ok (.ifCond .eq 29, 3) := sorry
theorem dX0_lead_13 : decode cX0_lead 13 = .ok (.aload_n 1, 1) := sorry
theorem dX0_lead_14 : decode cX0_lead 14 = .ok (.getfield 34, 3) := sorry
theorem dX0_lead_17 : decode cX0_lead 17 = .ok (.iconst 0, 1) := sorry
theorem dX0_lead_18 : decode cX0_lead 18 = .ok (.aload_n 0, 1) := sorry
theorem dX0_lead_19 : decode cX0_lead 19 = .ok (.getfield 11, 3) := sorry
theorem dX0_lead_22 : decode cX0_lead 22 = .ok (.aload_n 1, 1) := sorry
theorem dX0_lead_23 : decode cX0_lead 23 = .ok (.getfield 15, 3) := sorry
theorem dX0_lead_26 : decode cX0_lead 26 = .ok (.iconst 1, 1) := sorry
theorem dX0_lead_27 : decode cX0_lead 27 = .ok (.isub, 1) := sorry
theorem dX0_lead_28 : decode cX0_lead 28 = .ok (.bipush 30, 2) := sorry
theorem dX0_lead_30 : decode cX0_lead 30 = .ok (.imul, 1) := sorry
theorem dX0_lead_31 : decode cX0_lead 31 = .ok (.bipush 24, 2) := sorry
theorem dX0_lead_33 : decode cX0_lead 33 = .ok (.iadd, 1) := sorry
theorem dX0_lead_34 : decode cX0_lead 34 = .ok (.bipush 6, 2) := sorry
theorem dX0_lead_36 : decode cX0_lead 36 = .ok (.invokestatic 28, 3) := sorry
theorem dX0_lead_39 : decode cX0_lead 39 = .ok (.return_, 1) := sorry
set_option maxRecDepth 20000 in
theorem ggX0_giveBack_X10_within : GoodIn wsX0_giveBack wsX10_within := sorry
set_option maxRecDepth 20000 in
theorem gX0_giveBack_X10_within_n21 : GoodIn wsX0_giveBack (wsX10_within) := sorry
theorem dX0_giveBack_0 : decode cX0_giveBack 0 = .ok (.iload_n 2, 1) := sorry
theorem dX0_giveBack_1 : decode cX0_giveBack 1 = .ok (.iconst 0, 1) := sorry
theorem dX0_giveBack_2 : decode cX0_giveBack 2 = .ok (.bipush 119, 2) := sorry
theorem dX0_giveBack_4 : decode cX0_giveBack 4 = .ok (.invokestatic 21, 3) := sorry
theorem dX0_giveBack_7 : decode cX0_giveBack 7 = .ok (.ifCond .eq 26, 3) := sorry
theorem dX0_giveBack_10 : decode cX0_giveBack 10 = .ok (.aload_n 0, 1) := sorry
theorem dX0_giveBack_11 : decode cX0_giveBack 11 = .ok (.getfield 11, 3) := sorry
theorem dX0_giveBack_14 : decode cX0_giveBack 14 = .ok (.iload_n 2, 1) := sorry
theorem dX0_giveBack_15 : decode cX0_giveBack 15 = .ok (.bipush 30, 2) := sorry
theorem dX0_giveBack_17 : decode cX0_giveBack 17 = .ok (.imul, 1) := sorry
theorem dX0_giveBack_18 : decode cX0_giveBack 18 = .ok (.aload_n 1, 1) := sorry
theorem dX0_giveBack_19 : decode cX0_giveBack 19 = .ok (.getfield 25, 3) := sorry
theorem dX0_giveBack_22 : decode cX0_giveBack 22 = .ok (.iconst 0, 1) := sorry
theorem dX0_giveBack_23 : decode cX0_giveBack 23 = .ok (.bipush 24, 2) := sorry
theorem dX0_giveBack_25 : decode cX0_giveBack 25 = .ok (.invokestatic 28, 3) := sorry
theorem dX0_giveBack_28 : decode cX0_giveBack 28 = .ok (.aload_n 1, 1) := sorry
theorem dX0_giveBack_29 : decode cX0_giveBack 29 = .ok (.iload_n 2, 1) := sorry
theorem dX0_giveBack_30 : decode cX0_giveBack 30 = .ok (.putfield 15, 3) := sorry
theorem dX0_giveBack_33 : decode cX0_giveBack 33 = .ok (.return_, 1) := sorry
theorem dX0_shotAt_0 : decode cX0_shotAt 0 = .ok (.aload_n 0, 1) := sorry
theorem dX0_shotAt_1 : decode cX0_shotAt 1 = .ok (.getfield 11, 3) := sorry
theorem dX0_shotAt_4 : decode cX0_shotAt 4 = .ok (.iload_n 1, 1) := sorry
theorem dX0_shotAt_5 : decode cX0_shotAt 5 = .ok (.bipush 30, 2) := sorry
theorem dX0_shotAt_7 : decode cX0_shotAt 7 = .ok (.imul, 1) := sorry
theorem dX0_shotAt_8 : decode cX0_shotAt 8 = .ok (.bipush 24, 2) := sorry
theorem dX0_shotAt_10 : decode cX0_shotAt 10 = .ok (.iadd, 1) := sorry
theorem dX0_shotAt_11 : decode cX0_shotAt 11 = .ok (.iload_n 2, 1) := sorry
theorem dX0_shotAt_12 : decode cX0_shotAt 12 = .ok (.iadd, 1) := sorry
theorem dX0_shotAt_13 : decode cX0_shotAt 13 = .ok (.iaload, 1) := sorry
theorem dX0_shotAt_14 : decode cX0_shotAt 14 = .ok (.ireturn, 1) := sorry
set_option maxRecDepth 20000 in
theorem ggX0_take_X10_within : GoodIn wsX0_take wsX10_within := sorry
set_option maxRecDepth 20000 in
theorem gX0_take_X10_within_n21 : GoodIn wsX0_take (wsX10_within) := sorry
theorem dX0_take_0 : decode cX0_take 0 = .ok (.iload_n 2, 1) := sorry
theorem dX0_take_1 : decode cX0_take 1 = .ok (.iconst 0, 1) := sorry
theorem dX0_take_2 : decode cX0_take 2 = .ok (.bipush 120, 2) := sorry
theorem dX0_take_4 : decode cX0_take 4 = .ok (.invokestatic 21, 3) := sorry
theorem dX0_take_7 : decode cX0_take 7 = .ok (.ifCond .eq 20, 3) := sorry
theorem dX0_take_10 : decode cX0_take 10 = .ok (.aload_n 1, 1) := sorry
theorem dX0_take_11 : decode cX0_take 11 = .ok (.getfield 11, 3) := sorry
theorem dX0_take_14 : decode cX0_take 14 = .ok (.iconst 0, 1) := sorry
theorem dX0_take_15 : decode cX0_take 15 = .ok (.aload_n 0, 1) := sorry
theorem dX0_take_16 : decode cX0_take 16 = .ok (.getfield 11, 3) := sorry
theorem dX0_take_19 : decode cX0_take 19 = .ok (.iconst 0, 1) := sorry
theorem dX0_take_20 : decode cX0_take 20 = .ok (.iload_n 2, 1) := sorry
theorem dX0_take_21 : decode cX0_take 21 = .ok (.bipush 30, 2) := sorry
theorem dX0_take_23 : decode cX0_take 23 = .ok (.imul, 1) := sorry
theorem dX0_take_24 : decode cX0_take 24 = .ok (.invokestatic 28, 3) := sorry
theorem dX0_take_27 : decode cX0_take 27 = .ok (.return_, 1) := sorry
theorem dX1_init_0 : decode cX1_init 0 = .ok (.aload_n 0, 1) := sorry
theorem dX1_init_1 : decode cX1_init 1 = .ok (.invokespecial 5, 3) := sorry
theorem dX1_init_4 : decode cX1_init 4 = .ok (.aload_n 0, 1) := sorry
theorem dX1_init_5 : decode cX1_init 5 = .ok (.iconst 3, 1) := sorry
theorem dX1_init_6 : decode cX1_init 6 = .ok (.newarray .int, 2) := sorry
theorem dX1_init_8 : decode cX1_init 8 = .ok (.putfield 11, 3) := sorry
theorem dX1_init_11 : decode cX1_init 11 = .ok (.aload_n 0, 1) := sorry
theorem dX1_init_12 : decode cX1_init 12 = .ok (.iconst 3, 1) := sorry
theorem dX1_init_13 : decode cX1_init 13 = .ok (.newarray .int, 2) := sorry
theorem dX1_init_15 : decode cX1_init 15 = .ok (.putfield 15, 3) := sorry
theorem dX1_init_18 : decode cX1_init 18 = .ok (.aload_n 0, 1) := sorry
theorem dX1_init_19 : decode cX1_init 19 = .ok (.iconst 3, 1) := sorry
theorem dX1_init_20 : decode cX1_init 20 = .ok (.newarray .int, 2) := sorry
theorem dX1_init_22 : decode cX1_init 22 = .ok (.putfield 18, 3) := sorry
theorem dX1_init_25 : decode cX1_init 25 = .ok (.return_, 1) := sorry
theorem dX1_prepare_0 : decode cX1_prepare 0 = .ok (.aload_n 0, 1) := sorry
theorem dX1_prepare_1 : decode cX1_prepare 1 = .ok (.aload_n 1, 1) := sorry
theorem dX1_prepare_2 : decode cX1_prepare 2 = .ok (.getfield 21, 3) := sorry
theorem dX1_prepare_5 : decode cX1_prepare 5 = .ok (.iconst 3, 1) := sorry
theorem dX1_prepare_6 : decode cX1_prepare 6 = .ok (.invokestatic 27, 3) := sorry
theorem dX1_prepare_9 : decode cX1_prepare 9 = .ok (.putfield 33, 3) := sorry
theorem dX1_prepare_12 : decode cX1_prepare 12 = .ok (.iconst 0, 1) := sorry
theorem dX1_prepare_13 : decode cX1_prepare 13 = .ok (.istore_n 2, 1) := sorry
theorem dX1_prepare_14 : decode cX1_prepare 14 = .ok (.iload_n 2, 1) := sorry
theorem dX1_prepare_15 : decode cX1_prepare 15 = .ok (.aload_n 0, 1) := sorry
theorem dX1_prepare_16 : decode cX1_prepare 16 = .ok (.getfield 33, 3) := sorry
theorem dX1_prepare_19 : decode cX1_prepare 19 = .ok (.if_icmp .ge 36, 3) := sorry
theorem dX1_prepare_22 : decode cX1_prepare 22 = .ok (.aload_n 0, 1) := sorry
theorem dX1_prepare_23 : decode cX1_prepare 23 = .ok (.getfield 11, 3) := sorry
theorem dX1_prepare_26 : decode cX1_prepare 26 = .ok (.iload_n 2, 1) := sorry
theorem dX1_prepare_27 : decode cX1_prepare 27 = .ok (.aload_n 1, 1) := sorry
theorem dX1_prepare_28 : decode cX1_prepare 28 = .ok (.getfield 34, 3) := sorry
theorem dX1_prepare_31 : decode cX1_prepare 31 = .ok (.iload_n 2, 1) := sorry
theorem dX1_prepare_32 : decode cX1_prepare 32 = .ok (.iaload, 1) := sorry
theorem dX1_prepare_33 : decode cX1_prepare 33 = .ok (.iastore, 1) := sorry
theorem dX1_prepare_34 : decode cX1_prepare 34 = .ok (.aload_n 0, 1) := sorry
theorem dX1_prepare_35 : decode cX1_prepare 35 = .ok (.getfield 15, 3) := sorry
theorem dX1_prepare_38 : decode cX1_prepare 38 = .ok (.iload_n 2, 1) := sorry
theorem dX1_prepare_39 : decode cX1_prepare 39 = .ok (.aload_n 1, 1) := sorry
theorem dX1_prepare_40 : decode cX1_prepare 40 = .ok (.getfield 34, 3) := sorry
theorem dX1_prepare_43 : decode cX1_prepare 43 = .ok (.iload_n 2, 1) := sorry
theorem dX1_prepare_44 : decode cX1_prepare 44 = .ok (.iaload, 1) := sorry
theorem dX1_prepare_45 : decode cX1_prepare 45 = .ok (.bipush 25, 2) := sorry
theorem dX1_prepare_47 : decode cX1_prepare 47 = .ok (.idiv, 1) := sorry
theorem dX1_prepare_48 : decode cX1_prepare 48 = .ok (.iastore, 1) := sorry
theorem dX1_prepare_49 : decode cX1_prepare 49 = .ok (.iinc 2 1, 3) := sorry
theorem dX1_prepare_52 : decode cX1_prepare 52 = .ok (.goto (-38), 3) := sorry
theorem dX1_prepare_55 : decode cX1_prepare 55 = .ok (.return_, 1) := sorry
theorem dX1_all_0 : decode cX1_all 0 = .ok (.iconst 1, 1) := sorry
theorem dX1_all_1 : decode cX1_all 1 = .ok (.aload_n 0, 1) := sorry
theorem dX1_all_2 : decode cX1_all 2 = .ok (.getfield 33, 3) := sorry
theorem dX1_all_5 : decode cX1_all 5 = .ok (.ishl, 1) := sorry
theorem dX1_all_6 : decode cX1_all 6 = .ok (.iconst 1, 1) := sorry
theorem dX1_all_7 : decode cX1_all 7 = .ok (.isub, 1) := sorry
theorem dX1_all_8 : decode cX1_all 8 = .ok (.ireturn, 1) := sorry
set_option maxRecDepth 20000 in
theorem ggX1_safe_X1_place : GoodIn wsX1_safe wsX1_place := sorry
set_option maxRecDepth 20000 in
theorem gX1_safe_X1_place : GoodIn wsX1_safe (wsV RX1 40 RX1 yX1_place wsX1_place) := sorry
set_option maxRecDepth 20000 in
theorem ggX1_safe_X1_mostFelled : GoodIn wsX1_safe wsX1_mostFelled := sorry
set_option maxRecDepth 20000 in
theorem gX1_safe_X1_mostFelled : GoodIn wsX1_safe (wsV RX1 44 RX1 yX1_mostFelled wsX1_mostFelled) := sorry
set_option maxRecDepth 20000 in
theorem ggX1_safe_X1_digits : GoodIn wsX1_safe wsX1_digits := sorry
set_option maxRecDepth 20000 in
theorem gX1_safe_X1_digits : GoodIn wsX1_safe (wsV RX1 47 RX1 yX1_digits wsX1_digits) := sorry
theorem dX1_safe_0 : decode cX1_safe 0 = .ok (.iconst (-1), 1) := sorry
theorem dX1_safe_1 : decode cX1_safe 1 = .ok (.istore 4, 2) := sorry
theorem dX1_safe_3 : decode cX1_safe 3 = .ok (.aload_n 0, 1) := sorry
theorem dX1_safe_4 : decode cX1_safe 4 = .ok (.iconst 0, 1) := sorry
theorem dX1_safe_5 : decode cX1_safe 5 = .ok (.putfield 37, 3) := sorry
theorem dX1_safe_8 : decode cX1_safe 8 = .ok (.iconst 0, 1) := sorry
theorem dX1_safe_9 : decode cX1_safe 9 = .ok (.istore 5, 2) := sorry
theorem dX1_safe_11 : decode cX1_safe 11 = .ok (.iload 5, 2) := sorry
theorem dX1_safe_13 : decode cX1_safe 13 = .ok (.iload_n 3, 1) := sorry
theorem dX1_safe_14 : decode cX1_safe 14 = .ok (.if_icmp .gt 82, 3) := sorry
theorem dX1_safe_17 : decode cX1_safe 17 = .ok (.iconst 0, 1) := sorry
theorem dX1_safe_18 : decode cX1_safe 18 = .ok (.istore 6, 2) := sorry
theorem dX1_safe_20 : decode cX1_safe 20 = .ok (.iload 6, 2) := sorry
theorem dX1_safe_22 : decode cX1_safe 22 = .ok (.iload_n 3, 1) := sorry
theorem dX1_safe_23 : decode cX1_safe 23 = .ok (.iload 5, 2) := sorry
theorem dX1_safe_25 : decode cX1_safe 25 = .ok (.isub, 1) := sorry
theorem dX1_safe_26 : decode cX1_safe 26 = .ok (.if_icmp .gt 64, 3) := sorry
theorem dX1_safe_29 : decode cX1_safe 29 = .ok (.aload_n 0, 1) := sorry
theorem dX1_safe_30 : decode cX1_safe 30 = .ok (.iload_n 1, 1) := sorry
theorem dX1_safe_31 : decode cX1_safe 31 = .ok (.iload 5, 2) := sorry
theorem dX1_safe_33 : decode cX1_safe 33 = .ok (.iload 6, 2) := sorry
theorem dX1_safe_35 : decode cX1_safe 35 = .ok (.iload_n 3, 1) := sorry
theorem dX1_safe_36 : decode cX1_safe 36 = .ok (.iload 5, 2) := sorry
theorem dX1_safe_38 : decode cX1_safe 38 = .ok (.isub, 1) := sorry
theorem dX1_safe_39 : decode cX1_safe 39 = .ok (.iload 6, 2) := sorry
theorem dX1_safe_41 : decode cX1_safe 41 = .ok (.isub, 1) := sorry
theorem dX1_safe_42 : decode cX1_safe 42 = .ok (.invokevirtual 40, 3) := sorry
theorem dX1_safe_45 : decode cX1_safe 45 = .ok (.ifCond .ne 6, 3) := sorry
theorem dX1_safe_48 : decode cX1_safe 48 = .ok (.goto 36, 3) := sorry
theorem dX1_safe_51 : decode cX1_safe 51 = .ok (.aload_n 0, 1) := sorry
theorem dX1_safe_52 : decode cX1_safe 52 = .ok (.iload_n 1, 1) := sorry
theorem dX1_safe_53 : decode cX1_safe 53 = .ok (.iload_n 2, 1) := sorry
theorem dX1_safe_54 : decode cX1_safe 54 = .ok (.invokevirtual 44, 3) := sorry
theorem dX1_safe_57 : decode cX1_safe 57 = .ok (.istore 7, 2) := sorry
theorem dX1_safe_59 : decode cX1_safe 59 = .ok (.iload 4, 2) := sorry
theorem dX1_safe_61 : decode cX1_safe 61 = .ok (.iconst (-1), 1) := sorry
theorem dX1_safe_62 : decode cX1_safe 62 = .ok (.if_icmp .eq 10, 3) := sorry
theorem dX1_safe_65 : decode cX1_safe 65 = .ok (.iload 7, 2) := sorry
theorem dX1_safe_67 : decode cX1_safe 67 = .ok (.iload 4, 2) := sorry
theorem dX1_safe_69 : decode cX1_safe 69 = .ok (.if_icmp .ge 15, 3) := sorry
theorem dX1_safe_72 : decode cX1_safe 72 = .ok (.iload 7, 2) := sorry
theorem dX1_safe_74 : decode cX1_safe 74 = .ok (.istore 4, 2) := sorry
theorem dX1_safe_76 : decode cX1_safe 76 = .ok (.aload_n 0, 1) := sorry
theorem dX1_safe_77 : decode cX1_safe 77 = .ok (.aload_n 0, 1) := sorry
theorem dX1_safe_78 : decode cX1_safe 78 = .ok (.invokevirtual 47, 3) := sorry
theorem dX1_safe_81 : decode cX1_safe 81 = .ok (.putfield 37, 3) := sorry
theorem dX1_safe_84 : decode cX1_safe 84 = .ok (.iinc 6 1, 3) := sorry
theorem dX1_safe_87 : decode cX1_safe 87 = .ok (.goto (-67), 3) := sorry
theorem dX1_safe_90 : decode cX1_safe 90 = .ok (.iinc 5 1, 3) := sorry
theorem dX1_safe_93 : decode cX1_safe 93 = .ok (.goto (-82), 3) := sorry
theorem dX1_safe_96 : decode cX1_safe 96 = .ok (.iload 4, 2) := sorry
theorem dX1_safe_98 : decode cX1_safe 98 = .ok (.iconst 0, 1) := sorry
theorem dX1_safe_99 : decode cX1_safe 99 = .ok (.invokestatic 51, 3) := sorry
theorem dX1_safe_102 : decode cX1_safe 102 = .ok (.ireturn, 1) := sorry
set_option maxRecDepth 20000 in
theorem ggX1_sure_X1_all : GoodIn wsX1_sure wsX1_all := sorry
set_option maxRecDepth 20000 in
theorem gX1_sure_X1_all : GoodIn wsX1_sure (wsV RX1 54 RX1 yX1_all wsX1_all) := sorry
set_option maxRecDepth 20000 in
theorem ggX1_sure_X1_place : GoodIn wsX1_sure wsX1_place := sorry
set_option maxRecDepth 20000 in
theorem gX1_sure_X1_place : GoodIn wsX1_sure (wsV RX1 40 RX1 yX1_place wsX1_place) := sorry
set_option maxRecDepth 20000 in
theorem ggX1_sure_X1_leastFelled : GoodIn wsX1_sure wsX1_leastFelled := sorry
set_option maxRecDepth 20000 in
theorem gX1_sure_X1_leastFelled : GoodIn wsX1_sure (wsV RX1 57 RX1 yX1_leastFelled wsX1_leastFelled) := sorry
theorem dX1_sure_0 : decode cX1_sure 0 = .ok (.iconst 0, 1) := sorry
theorem dX1_sure_1 : decode cX1_sure 1 = .ok (.istore_n 3, 1) := sorry
theorem dX1_sure_2 : decode cX1_sure 2 = .ok (.iconst 0, 1) := sorry
theorem dX1_sure_3 : decode cX1_sure 3 = .ok (.istore 4, 2) := sorry
theorem dX1_sure_5 : decode cX1_sure 5 = .ok (.iload 4, 2) := sorry
theorem dX1_sure_7 : decode cX1_sure 7 = .ok (.iload_n 1, 1) := sorry
theorem dX1_sure_8 : decode cX1_sure 8 = .ok (.if_icmp .gt 59, 3) := sorry
theorem dX1_sure_11 : decode cX1_sure 11 = .ok (.iconst 0, 1) := sorry
theorem dX1_sure_12 : decode cX1_sure 12 = .ok (.istore 5, 2) := sorry
theorem dX1_sure_14 : decode cX1_sure 14 = .ok (.iload 5, 2) := sorry
theorem dX1_sure_16 : decode cX1_sure 16 = .ok (.iload_n 1, 1) := sorry
theorem dX1_sure_17 : decode cX1_sure 17 = .ok (.iload 4, 2) := sorry
theorem dX1_sure_19 : decode cX1_sure 19 = .ok (.isub, 1) := sorry
theorem dX1_sure_20 : decode cX1_sure 20 = .ok (.if_icmp .gt 41, 3) := sorry
theorem dX1_sure_23 : decode cX1_sure 23 = .ok (.aload_n 0, 1) := sorry
theorem dX1_sure_24 : decode cX1_sure 24 = .ok (.aload_n 0, 1) := sorry
theorem dX1_sure_25 : decode cX1_sure 25 = .ok (.invokevirtual 54, 3) := sorry
theorem dX1_sure_28 : decode cX1_sure 28 = .ok (.iload 4, 2) := sorry
theorem dX1_sure_30 : decode cX1_sure 30 = .ok (.iload 5, 2) := sorry
theorem dX1_sure_32 : decode cX1_sure 32 = .ok (.iload_n 1, 1) := sorry
theorem dX1_sure_33 : decode cX1_sure 33 = .ok (.iload 4, 2) := sorry
theorem dX1_sure_35 : decode cX1_sure 35 = .ok (.isub, 1) := sorry
theorem dX1_sure_36 : decode cX1_sure 36 = .ok (.iload 5, 2) := sorry
theorem dX1_sure_38 : decode cX1_sure 38 = .ok (.isub, 1) := sorry
theorem dX1_sure_39 : decode cX1_sure 39 = .ok (.invokevirtual 40, 3) := sorry
theorem dX1_sure_42 : decode cX1_sure 42 = .ok (.ifCond .eq 13, 3) := sorry
theorem dX1_sure_45 : decode cX1_sure 45 = .ok (.iload_n 3, 1) := sorry
theorem dX1_sure_46 : decode cX1_sure 46 = .ok (.aload_n 0, 1) := sorry
theorem dX1_sure_47 : decode cX1_sure 47 = .ok (.iload_n 2, 1) := sorry
theorem dX1_sure_48 : decode cX1_sure 48 = .ok (.invokevirtual 57, 3) := sorry
theorem dX1_sure_51 : decode cX1_sure 51 = .ok (.invokestatic 51, 3) := sorry
theorem dX1_sure_54 : decode cX1_sure 54 = .ok (.istore_n 3, 1) := sorry
theorem dX1_sure_55 : decode cX1_sure 55 = .ok (.iinc 5 1, 3) := sorry
theorem dX1_sure_58 : decode cX1_sure 58 = .ok (.goto (-44), 3) := sorry
theorem dX1_sure_61 : decode cX1_sure 61 = .ok (.iinc 4 1, 3) := sorry
theorem dX1_sure_64 : decode cX1_sure 64 = .ok (.goto (-59), 3) := sorry
theorem dX1_sure_67 : decode cX1_sure 67 = .ok (.iload_n 3, 1) := sorry
theorem dX1_sure_68 : decode cX1_sure 68 = .ok (.ireturn, 1) := sorry
theorem dX1_place_0 : decode cX1_place 0 = .ok (.aload_n 0, 1) := sorry
theorem dX1_place_1 : decode cX1_place 1 = .ok (.getfield 18, 3) := sorry
theorem dX1_place_4 : decode cX1_place 4 = .ok (.iconst 0, 1) := sorry
theorem dX1_place_5 : decode cX1_place 5 = .ok (.iload_n 2, 1) := sorry
theorem dX1_place_6 : decode cX1_place 6 = .ok (.iastore, 1) := sorry
theorem dX1_place_7 : decode cX1_place 7 = .ok (.aload_n 0, 1) := sorry
theorem dX1_place_8 : decode cX1_place 8 = .ok (.getfield 18, 3) := sorry
theorem dX1_place_11 : decode cX1_place 11 = .ok (.iconst 1, 1) := sorry
theorem dX1_place_12 : decode cX1_place 12 = .ok (.iload_n 3, 1) := sorry
theorem dX1_place_13 : decode cX1_place 13 = .ok (.iastore, 1) := sorry
theorem dX1_place_14 : decode cX1_place 14 = .ok (.aload_n 0, 1) := sorry
theorem dX1_place_15 : decode cX1_place 15 = .ok (.getfield 18, 3) := sorry
theorem dX1_place_18 : decode cX1_place 18 = .ok (.iconst 2, 1) := sorry
theorem dX1_place_19 : decode cX1_place 19 = .ok (.iload 4, 2) := sorry
theorem dX1_place_21 : decode cX1_place 21 = .ok (.iastore, 1) := sorry
theorem dX1_place_22 : decode cX1_place 22 = .ok (.iconst 0, 1) := sorry
theorem dX1_place_23 : decode cX1_place 23 = .ok (.istore 5, 2) := sorry
theorem dX1_place_25 : decode cX1_place 25 = .ok (.iload 5, 2) := sorry
theorem dX1_place_27 : decode cX1_place 27 = .ok (.iconst 3, 1) := sorry
theorem dX1_place_28 : decode cX1_place 28 = .ok (.if_icmp .ge 30, 3) := sorry
theorem dX1_place_31 : decode cX1_place 31 = .ok (.aload_n 0, 1) := sorry
theorem dX1_place_32 : decode cX1_place 32 = .ok (.getfield 18, 3) := sorry
theorem dX1_place_35 : decode cX1_place 35 = .ok (.iload 5, 2) := sorry
theorem dX1_place_37 : decode cX1_place 37 = .ok (.iaload, 1) := sorry
theorem dX1_place_38 : decode cX1_place 38 = .ok (.ifCond .le 14, 3) := sorry
theorem dX1_place_41 : decode cX1_place 41 = .ok (.iload_n 1, 1) := sorry
theorem dX1_place_42 : decode cX1_place 42 = .ok (.iload 5, 2) := sorry
theorem dX1_place_44 : decode cX1_place 44 = .ok (.ishr, 1) := sorry
theorem dX1_place_45 : decode cX1_place 45 = .ok (.iconst 1, 1) := sorry
theorem dX1_place_46 : decode cX1_place 46 = .ok (.iand, 1) := sorry
theorem dX1_place_47 : decode cX1_place 47 = .ok (.ifCond .ne 5, 3) := sorry
theorem dX1_place_50 : decode cX1_place 50 = .ok (.iconst 0, 1) := sorry
theorem dX1_place_51 : decode cX1_place 51 = .ok (.ireturn, 1) := sorry
theorem dX1_place_52 : decode cX1_place 52 = .ok (.iinc 5 1, 3) := sorry
theorem dX1_place_55 : decode cX1_place 55 = .ok (.goto (-30), 3) := sorry
theorem dX1_place_58 : decode cX1_place 58 = .ok (.iconst 1, 1) := sorry
theorem dX1_place_59 : decode cX1_place 59 = .ok (.ireturn, 1) := sorry
theorem dX1_digits_0 : decode cX1_digits 0 = .ok (.iconst 0, 1) := sorry
theorem dX1_digits_1 : decode cX1_digits 1 = .ok (.istore_n 1, 1) := sorry
theorem dX1_digits_2 : decode cX1_digits 2 = .ok (.iconst 0, 1) := sorry
theorem dX1_digits_3 : decode cX1_digits 3 = .ok (.istore_n 2, 1) := sorry
theorem dX1_digits_4 : decode cX1_digits 4 = .ok (.iload_n 2, 1) := sorry
theorem dX1_digits_5 : decode cX1_digits 5 = .ok (.aload_n 0, 1) := sorry
theorem dX1_digits_6 : decode cX1_digits 6 = .ok (.getfield 33, 3) := sorry
theorem dX1_digits_9 : decode cX1_digits 9 = .ok (.if_icmp .ge 21, 3) := sorry
theorem dX1_digits_12 : decode cX1_digits 12 = .ok (.iload_n 1, 1) := sorry
theorem dX1_digits_13 : decode cX1_digits 13 = .ok (.bipush 10, 2) := sorry
theorem dX1_digits_15 : decode cX1_digits 15 = .ok (.imul, 1) := sorry
theorem dX1_digits_16 : decode cX1_digits 16 = .ok (.aload_n 0, 1) := sorry
theorem dX1_digits_17 : decode cX1_digits 17 = .ok (.getfield 18, 3) := sorry
theorem dX1_digits_20 : decode cX1_digits 20 = .ok (.iload_n 2, 1) := sorry
theorem dX1_digits_21 : decode cX1_digits 21 = .ok (.iaload, 1) := sorry
theorem dX1_digits_22 : decode cX1_digits 22 = .ok (.iadd, 1) := sorry
theorem dX1_digits_23 : decode cX1_digits 23 = .ok (.istore_n 1, 1) := sorry
theorem dX1_digits_24 : decode cX1_digits 24 = .ok (.iinc 2 1, 3) := sorry
theorem dX1_digits_27 : decode cX1_digits 27 = .ok (.goto (-23), 3) := sorry
theorem dX1_digits_30 : decode cX1_digits 30 = .ok (.iload_n 1, 1) := sorry
theorem dX1_digits_31 : decode cX1_digits 31 = .ok (.ireturn, 1) := sorry
set_option maxRecDepth 20000 in
theorem ggX1_mostFelled_X1_menToFell : GoodIn wsX1_mostFelled wsX1_menToFell := sorry
set_option maxRecDepth 20000 in
theorem gX1_mostFelled_X1_menToFell : GoodIn wsX1_mostFelled (wsV RX1 61 RX1 yX1_menToFell wsX1_menToFell) := sorry
set_option maxRecDepth 20000 in
theorem ggX1_mostFelled_X1_worthOf : GoodIn wsX1_mostFelled wsX1_worthOf := sorry
set_option maxRecDepth 20000 in
theorem gX1_mostFelled_X1_worthOf : GoodIn wsX1_mostFelled (wsV RX1 64 RX1 yX1_worthOf wsX1_worthOf) := sorry
theorem dX1_mostFelled_0 : decode cX1_mostFelled 0 = .ok (.iconst 0, 1) := sorry
theorem dX1_mostFelled_1 : decode cX1_mostFelled 1 = .ok (.istore_n 3, 1) := sorry
theorem dX1_mostFelled_2 : decode cX1_mostFelled 2 = .ok (.iconst 0, 1) := sorry
theorem dX1_mostFelled_3 : decode cX1_mostFelled 3 = .ok (.istore 4, 2) := sorry
theorem dX1_mostFelled_5 : decode cX1_mostFelled 5 = .ok (.iload 4, 2) := sorry
theorem dX1_mostFelled_7 : decode cX1_mostFelled 7 = .ok (.bipush 8, 2) := sorry
theorem dX1_mostFelled_9 : decode cX1_mostFelled 9 = .ok (.if_icmp .ge 39, 3) := sorry
theorem dX1_mostFelled_12 : decode cX1_mostFelled 12 = .ok (.iload 4, 2) := sorry
theorem dX1_mostFelled_14 : decode cX1_mostFelled 14 = .ok (.iload_n 1, 1) := sorry
theorem dX1_mostFelled_15 : decode cX1_mostFelled 15 = .ok (.iconst (-1), 1) := sorry
theorem dX1_mostFelled_16 : decode cX1_mostFelled 16 = .ok (.ixor, 1) := sorry
theorem dX1_mostFelled_17 : decode cX1_mostFelled 17 = .ok (.iand, 1) := sorry
theorem dX1_mostFelled_18 : decode cX1_mostFelled 18 = .ok (.ifCond .ne 24, 3) := sorry
theorem dX1_mostFelled_21 : decode cX1_mostFelled 21 = .ok (.aload_n 0, 1) := sorry
theorem dX1_mostFelled_22 : decode cX1_mostFelled 22 = .ok (.iload 4, 2) := sorry
theorem dX1_mostFelled_24 : decode cX1_mostFelled 24 = .ok (.invokevirtual 61, 3) := sorry
theorem dX1_mostFelled_27 : decode cX1_mostFelled 27 = .ok (.iload_n 2, 1) := sorry
theorem dX1_mostFelled_28 : decode cX1_mostFelled 28 = .ok (.if_icmp .gt 14, 3) := sorry
theorem dX1_mostFelled_31 : decode cX1_mostFelled 31 = .ok (.iload_n 3, 1) := sorry
theorem dX1_mostFelled_32 : decode cX1_mostFelled 32 = .ok (.aload_n 0, 1) := sorry
theorem dX1_mostFelled_33 : decode cX1_mostFelled 33 = .ok (.iload 4, 2) := sorry
theorem dX1_mostFelled_35 : decode cX1_mostFelled 35 = .ok (.invokevirtual 64, 3) := sorry
theorem dX1_mostFelled_38 : decode cX1_mostFelled 38 = .ok (.invokestatic 51, 3) := sorry
theorem dX1_mostFelled_41 : decode cX1_mostFelled 41 = .ok (.istore_n 3, 1) := sorry
theorem dX1_mostFelled_42 : decode cX1_mostFelled 42 = .ok (.iinc 4 1, 3) := sorry
theorem dX1_mostFelled_45 : decode cX1_mostFelled 45 = .ok (.goto (-40), 3) := sorry
theorem dX1_mostFelled_48 : decode cX1_mostFelled 48 = .ok (.iload_n 3, 1) := sorry
theorem dX1_mostFelled_49 : decode cX1_mostFelled 49 = .ok (.ireturn, 1) := sorry
set_option maxRecDepth 20000 in
theorem ggX1_leastFelled_X1_all : GoodIn wsX1_leastFelled wsX1_all := sorry
set_option maxRecDepth 20000 in
theorem gX1_leastFelled_X1_all : GoodIn wsX1_leastFelled (wsV RX1 54 RX1 yX1_all wsX1_all) := sorry
set_option maxRecDepth 20000 in
theorem ggX1_leastFelled_X1_menToHold : GoodIn wsX1_leastFelled wsX1_menToHold := sorry
set_option maxRecDepth 20000 in
theorem gX1_leastFelled_X1_menToHold : GoodIn wsX1_leastFelled (wsV RX1 67 RX1 yX1_menToHold wsX1_menToHold) := sorry
set_option maxRecDepth 20000 in
theorem ggX1_leastFelled_X1_worthOf : GoodIn wsX1_leastFelled wsX1_worthOf := sorry
set_option maxRecDepth 20000 in
theorem gX1_leastFelled_X1_worthOf : GoodIn wsX1_leastFelled (wsV RX1 64 RX1 yX1_worthOf wsX1_worthOf) := sorry
theorem dX1_leastFelled_0 : decode cX1_leastFelled 0 = .ok (.iconst 0, 1) := sorry
theorem dX1_leastFelled_1 : decode cX1_leastFelled 1 = .ok (.istore_n 2, 1) := sorry
theorem dX1_leastFelled_2 : decode cX1_leastFelled 2 = .ok (.iconst 0, 1) := sorry
theorem dX1_leastFelled_3 : decode cX1_leastFelled 3 = .ok (.istore_n 3, 1) := sorry
theorem dX1_leastFelled_4 : decode cX1_leastFelled 4 = .ok (.iload_n 3, 1) := sorry
theorem dX1_leastFelled_5 : decode cX1_leastFelled 5 = .ok (.aload_n 0, 1) := sorry
theorem dX1_leastFelled_6 : decode cX1_leastFelled 6 = .ok (.invokevirtual 54, 3) := sorry
theorem dX1_leastFelled_9 : decode cX1_leastFelled 9 = .ok (.if_icmp .gt 28, 3) := sorry
theorem dX1_leastFelled_12 : decode cX1_leastFelled 12 = .ok (.aload_n 0, 1) := sorry
theorem dX1_leastFelled_13 : decode cX1_leastFelled 13 = .ok (.iload_n 3, 1) := sorry
theorem dX1_leastFelled_14 : decode cX1_leastFelled 14 = .ok (.invokevirtual 67, 3) := sorry
theorem dX1_leastFelled_17 : decode cX1_leastFelled 17 = .ok (.iload_n 1, 1) := sorry
theorem dX1_leastFelled_18 : decode cX1_leastFelled 18 = .ok (.if_icmp .gt 13, 3) := sorry
theorem dX1_leastFelled_21 : decode cX1_leastFelled 21 = .ok (.iload_n 2, 1) := sorry
theorem dX1_leastFelled_22 : decode cX1_leastFelled 22 = .ok (.aload_n 0, 1) := sorry
theorem dX1_leastFelled_23 : decode cX1_leastFelled 23 = .ok (.iload_n 3, 1) := sorry
theorem dX1_leastFelled_24 : decode cX1_leastFelled 24 = .ok (.invokevirtual 64, 3) := sorry
theorem dX1_leastFelled_27 : decode cX1_leastFelled 27 = .ok (.invokestatic 51, 3) := sorry
theorem dX1_leastFelled_30 : decode cX1_leastFelled 30 = .ok (.istore_n 2, 1) := sorry
theorem dX1_leastFelled_31 : decode cX1_leastFelled 31 = .ok (.iinc 3 1, 3) := sorry
theorem dX1_leastFelled_34 : decode cX1_leastFelled 34 = .ok (.goto (-30), 3) := sorry
theorem dX1_leastFelled_37 : decode cX1_leastFelled 37 = .ok (.aload_n 0, 1) := sorry
theorem dX1_leastFelled_38 : decode cX1_leastFelled 38 = .ok (.aload_n 0, 1) := sorry
theorem dX1_leastFelled_39 : decode cX1_leastFelled 39 = .ok (.invokevirtual 54, 3) := sorry
theorem dX1_leastFelled_42 : decode cX1_leastFelled 42 = .ok (.invokevirtual 64, 3) := sorry
theorem dX1_leastFelled_45 : decode cX1_leastFelled 45 = .ok (.iload_n 2, 1) := sorry
theorem dX1_leastFelled_46 : decode cX1_leastFelled 46 = .ok (.isub, 1) := sorry
theorem dX1_leastFelled_47 : decode cX1_leastFelled 47 = .ok (.ireturn, 1) := sorry
theorem dX1_menToFell_0 : decode cX1_menToFell 0 = .ok (.iconst 0, 1) := sorry
theorem dX1_menToFell_1 : decode cX1_menToFell 1 = .ok (.istore_n 2, 1) := sorry
theorem dX1_menToFell_2 : decode cX1_menToFell 2 = .ok (.iconst 0, 1) := sorry
theorem dX1_menToFell_3 : decode cX1_menToFell 3 = .ok (.istore_n 3, 1) := sorry
theorem dX1_menToFell_4 : decode cX1_menToFell 4 = .ok (.iload_n 3, 1) := sorry
theorem dX1_menToFell_5 : decode cX1_menToFell 5 = .ok (.iconst 3, 1) := sorry
theorem dX1_menToFell_6 : decode cX1_menToFell 6 = .ok (.if_icmp .ge 36, 3) := sorry
theorem dX1_menToFell_9 : decode cX1_menToFell 9 = .ok (.iload_n 1, 1) := sorry
theorem dX1_menToFell_10 : decode cX1_menToFell 10 = .ok (.iload_n 3, 1) := sorry
theorem dX1_menToFell_11 : decode cX1_menToFell 11 = .ok (.ishr, 1) := sorry
theorem dX1_menToFell_12 : decode cX1_menToFell 12 = .ok (.iconst 1, 1) := sorry
theorem dX1_menToFell_13 : decode cX1_menToFell 13 = .ok (.iand, 1) := sorry
theorem dX1_menToFell_14 : decode cX1_menToFell 14 = .ok (.iconst 1, 1) := sorry
theorem dX1_menToFell_15 : decode cX1_menToFell 15 = .ok (.if_icmp .ne 21, 3) := sorry
theorem dX1_menToFell_18 : decode cX1_menToFell 18 = .ok (.iload_n 2, 1) := sorry
theorem dX1_menToFell_19 : decode cX1_menToFell 19 = .ok (.aload_n 0, 1) := sorry
theorem dX1_menToFell_20 : decode cX1_menToFell 20 = .ok (.getfield 18, 3) := sorry
theorem dX1_menToFell_23 : decode cX1_menToFell 23 = .ok (.iload_n 3, 1) := sorry
theorem dX1_menToFell_24 : decode cX1_menToFell 24 = .ok (.iaload, 1) := sorry
theorem dX1_menToFell_25 : decode cX1_menToFell 25 = .ok (.aload_n 0, 1) := sorry
theorem dX1_menToFell_26 : decode cX1_menToFell 26 = .ok (.getfield 15, 3) := sorry
theorem dX1_menToFell_29 : decode cX1_menToFell 29 = .ok (.iload_n 3, 1) := sorry
theorem dX1_menToFell_30 : decode cX1_menToFell 30 = .ok (.iaload, 1) := sorry
theorem dX1_menToFell_31 : decode cX1_menToFell 31 = .ok (.iadd, 1) := sorry
theorem dX1_menToFell_32 : decode cX1_menToFell 32 = .ok (.iconst 1, 1) := sorry
theorem dX1_menToFell_33 : decode cX1_menToFell 33 = .ok (.iadd, 1) := sorry
theorem dX1_menToFell_34 : decode cX1_menToFell 34 = .ok (.iadd, 1) := sorry
theorem dX1_menToFell_35 : decode cX1_menToFell 35 = .ok (.istore_n 2, 1) := sorry
theorem dX1_menToFell_36 : decode cX1_menToFell 36 = .ok (.iinc 3 1, 3) := sorry
theorem dX1_menToFell_39 : decode cX1_menToFell 39 = .ok (.goto (-35), 3) := sorry
theorem dX1_menToFell_42 : decode cX1_menToFell 42 = .ok (.iload_n 2, 1) := sorry
theorem dX1_menToFell_43 : decode cX1_menToFell 43 = .ok (.ireturn, 1) := sorry
theorem dX1_menToHold_0 : decode cX1_menToHold 0 = .ok (.iconst 0, 1) := sorry
theorem dX1_menToHold_1 : decode cX1_menToHold 1 = .ok (.istore_n 2, 1) := sorry
theorem dX1_menToHold_2 : decode cX1_menToHold 2 = .ok (.iconst 0, 1) := sorry
theorem dX1_menToHold_3 : decode cX1_menToHold 3 = .ok (.istore_n 3, 1) := sorry
theorem dX1_menToHold_4 : decode cX1_menToHold 4 = .ok (.iload_n 3, 1) := sorry
theorem dX1_menToHold_5 : decode cX1_menToHold 5 = .ok (.iconst 3, 1) := sorry
theorem dX1_menToHold_6 : decode cX1_menToHold 6 = .ok (.if_icmp .ge 38, 3) := sorry
theorem dX1_menToHold_9 : decode cX1_menToHold 9 = .ok (.iload_n 1, 1) := sorry
theorem dX1_menToHold_10 : decode cX1_menToHold 10 = .ok (.iload_n 3, 1) := sorry
theorem dX1_menToHold_11 : decode cX1_menToHold 11 = .ok (.ishr, 1) := sorry
theorem dX1_menToHold_12 : decode cX1_menToHold 12 = .ok (.iconst 1, 1) := sorry
theorem dX1_menToHold_13 : decode cX1_menToHold 13 = .ok (.iand, 1) := sorry
theorem dX1_menToHold_14 : decode cX1_menToHold 14 = .ok (.iconst 1, 1) := sorry
theorem dX1_menToHold_15 : decode cX1_menToHold 15 = .ok (.if_icmp .ne 23, 3) := sorry
theorem dX1_menToHold_18 : decode cX1_menToHold 18 = .ok (.iload_n 2, 1) := sorry
theorem dX1_menToHold_19 : decode cX1_menToHold 19 = .ok (.iconst 0, 1) := sorry
theorem dX1_menToHold_20 : decode cX1_menToHold 20 = .ok (.aload_n 0, 1) := sorry
theorem dX1_menToHold_21 : decode cX1_menToHold 21 = .ok (.getfield 18, 3) := sorry
theorem dX1_menToHold_24 : decode cX1_menToHold 24 = .ok (.iload_n 3, 1) := sorry
theorem dX1_menToHold_25 : decode cX1_menToHold 25 = .ok (.iaload, 1) := sorry
theorem dX1_menToHold_26 : decode cX1_menToHold 26 = .ok (.aload_n 0, 1) := sorry
theorem dX1_menToHold_27 : decode cX1_menToHold 27 = .ok (.getfield 15, 3) := sorry
theorem dX1_menToHold_30 : decode cX1_menToHold 30 = .ok (.iload_n 3, 1) := sorry
theorem dX1_menToHold_31 : decode cX1_menToHold 31 = .ok (.iaload, 1) := sorry
theorem dX1_menToHold_32 : decode cX1_menToHold 32 = .ok (.isub, 1) := sorry
theorem dX1_menToHold_33 : decode cX1_menToHold 33 = .ok (.invokestatic 51, 3) := sorry
theorem dX1_menToHold_36 : decode cX1_menToHold 36 = .ok (.iadd, 1) := sorry
theorem dX1_menToHold_37 : decode cX1_menToHold 37 = .ok (.istore_n 2, 1) := sorry
theorem dX1_menToHold_38 : decode cX1_menToHold 38 = .ok (.iinc 3 1, 3) := sorry
theorem dX1_menToHold_41 : decode cX1_menToHold 41 = .ok (.goto (-37), 3) := sorry
theorem dX1_menToHold_44 : decode cX1_menToHold 44 = .ok (.iload_n 2, 1) := sorry
theorem dX1_menToHold_45 : decode cX1_menToHold 45 = .ok (.ireturn, 1) := sorry
theorem dX1_worthOf_0 : decode cX1_worthOf 0 = .ok (.iconst 0, 1) := sorry
theorem dX1_worthOf_1 : decode cX1_worthOf 1 = .ok (.istore_n 2, 1) := sorry
theorem dX1_worthOf_2 : decode cX1_worthOf 2 = .ok (.iconst 0, 1) := sorry
theorem dX1_worthOf_3 : decode cX1_worthOf 3 = .ok (.istore_n 3, 1) := sorry
theorem dX1_worthOf_4 : decode cX1_worthOf 4 = .ok (.iload_n 3, 1) := sorry
theorem dX1_worthOf_5 : decode cX1_worthOf 5 = .ok (.iconst 3, 1) := sorry
theorem dX1_worthOf_6 : decode cX1_worthOf 6 = .ok (.if_icmp .ge 27, 3) := sorry
theorem dX1_worthOf_9 : decode cX1_worthOf 9 = .ok (.iload_n 1, 1) := sorry
theorem dX1_worthOf_10 : decode cX1_worthOf 10 = .ok (.iload_n 3, 1) := sorry
theorem dX1_worthOf_11 : decode cX1_worthOf 11 = .ok (.ishr, 1) := sorry
theorem dX1_worthOf_12 : decode cX1_worthOf 12 = .ok (.iconst 1, 1) := sorry
theorem dX1_worthOf_13 : decode cX1_worthOf 13 = .ok (.iand, 1) := sorry
theorem dX1_worthOf_14 : decode cX1_worthOf 14 = .ok (.iconst 1, 1) := sorry
theorem dX1_worthOf_15 : decode cX1_worthOf 15 = .ok (.if_icmp .ne 12, 3) := sorry
theorem dX1_worthOf_18 : decode cX1_worthOf 18 = .ok (.iload_n 2, 1) := sorry
theorem dX1_worthOf_19 : decode cX1_worthOf 19 = .ok (.aload_n 0, 1) := sorry
theorem dX1_worthOf_20 : decode cX1_worthOf 20 = .ok (.getfield 11, 3) := sorry
theorem dX1_worthOf_23 : decode cX1_worthOf 23 = .ok (.iload_n 3, 1) := sorry
theorem dX1_worthOf_24 : decode cX1_worthOf 24 = .ok (.iaload, 1) := sorry
theorem dX1_worthOf_25 : decode cX1_worthOf 25 = .ok (.iadd, 1) := sorry
theorem dX1_worthOf_26 : decode cX1_worthOf 26 = .ok (.istore_n 2, 1) := sorry
theorem dX1_worthOf_27 : decode cX1_worthOf 27 = .ok (.iinc 3 1, 3) := sorry
theorem dX1_worthOf_30 : decode cX1_worthOf 30 = .ok (.goto (-26), 3) := sorry
theorem dX1_worthOf_33 : decode cX1_worthOf 33 = .ok (.iload_n 2, 1) := sorry
theorem dX1_worthOf_34 : decode cX1_worthOf 34 = .ok (.ireturn, 1) := sorry
theorem dX2_init_0 : decode cX2_init 0 = .ok (.aload_n 0, 1) := sorry
theorem dX2_init_1 : decode cX2_init 1 = .ok (.invokespecial 1, 3) := sorry
theorem dX2_init_4 : decode cX2_init 4 = .ok (.aload_n 0, 1) := sorry
theorem dX2_init_5 : decode cX2_init 5 = .ok (.iconst 4, 1) := sorry
theorem dX2_init_6 : decode cX2_init 6 = .ok (.newarray .int, 2) := sorry
theorem dX2_init_8 : decode cX2_init 8 = .ok (.dup, 1) := sorry
theorem dX2_init_9 : decode cX2_init 9 = .ok (.iconst 0, 1) := sorry
theorem dX2_init_10 : decode cX2_init 10 = .ok (.bipush 8, 2) := sorry
theorem dX2_init_12 : decode cX2_init 12 = .ok (.iastore, 1) := sorry
theorem dX2_init_13 : decode cX2_init 13 = .ok (.dup, 1) := sorry
theorem dX2_init_14 : decode cX2_init 14 = .ok (.iconst 1, 1) := sorry
theorem dX2_init_15 : decode cX2_init 15 = .ok (.bipush 8, 2) := sorry
theorem dX2_init_17 : decode cX2_init 17 = .ok (.iastore, 1) := sorry
theorem dX2_init_18 : decode cX2_init 18 = .ok (.dup, 1) := sorry
theorem dX2_init_19 : decode cX2_init 19 = .ok (.iconst 2, 1) := sorry
theorem dX2_init_20 : decode cX2_init 20 = .ok (.bipush 8, 2) := sorry
theorem dX2_init_22 : decode cX2_init 22 = .ok (.iastore, 1) := sorry
theorem dX2_init_23 : decode cX2_init 23 = .ok (.dup, 1) := sorry
theorem dX2_init_24 : decode cX2_init 24 = .ok (.iconst 3, 1) := sorry
theorem dX2_init_25 : decode cX2_init 25 = .ok (.bipush 8, 2) := sorry
theorem dX2_init_27 : decode cX2_init 27 = .ok (.iastore, 1) := sorry
theorem dX2_init_28 : decode cX2_init 28 = .ok (.putfield 7, 3) := sorry
theorem dX2_init_31 : decode cX2_init 31 = .ok (.aload_n 0, 1) := sorry
theorem dX2_init_32 : decode cX2_init 32 = .ok (.iconst 4, 1) := sorry
theorem dX2_init_33 : decode cX2_init 33 = .ok (.newarray .int, 2) := sorry
theorem dX2_init_35 : decode cX2_init 35 = .ok (.dup, 1) := sorry
theorem dX2_init_36 : decode cX2_init 36 = .ok (.iconst 0, 1) := sorry
theorem dX2_init_37 : decode cX2_init 37 = .ok (.bipush 8, 2) := sorry
theorem dX2_init_39 : decode cX2_init 39 = .ok (.iastore, 1) := sorry
theorem dX2_init_40 : decode cX2_init 40 = .ok (.dup, 1) := sorry
theorem dX2_init_41 : decode cX2_init 41 = .ok (.iconst 1, 1) := sorry
theorem dX2_init_42 : decode cX2_init 42 = .ok (.bipush 8, 2) := sorry
theorem dX2_init_44 : decode cX2_init 44 = .ok (.iastore, 1) := sorry
theorem dX2_init_45 : decode cX2_init 45 = .ok (.dup, 1) := sorry
theorem dX2_init_46 : decode cX2_init 46 = .ok (.iconst 2, 1) := sorry
theorem dX2_init_47 : decode cX2_init 47 = .ok (.bipush 8, 2) := sorry
theorem dX2_init_49 : decode cX2_init 49 = .ok (.iastore, 1) := sorry
theorem dX2_init_50 : decode cX2_init 50 = .ok (.dup, 1) := sorry
theorem dX2_init_51 : decode cX2_init 51 = .ok (.iconst 3, 1) := sorry
theorem dX2_init_52 : decode cX2_init 52 = .ok (.bipush 8, 2) := sorry
theorem dX2_init_54 : decode cX2_init 54 = .ok (.iastore, 1) := sorry
theorem dX2_init_55 : decode cX2_init 55 = .ok (.putfield 13, 3) := sorry
theorem dX2_init_58 : decode cX2_init 58 = .ok (.aload_n 0, 1) := sorry
theorem dX2_init_59 : decode cX2_init 59 = .ok (.iconst 1, 1) := sorry
theorem dX2_init_60 : decode cX2_init 60 = .ok (.putfield 16, 3) := sorry
theorem dX2_init_63 : decode cX2_init 63 = .ok (.aload_n 0, 1) := sorry
theorem dX2_init_64 : decode cX2_init 64 = .ok (.iconst 1, 1) := sorry
theorem dX2_init_65 : decode cX2_init 65 = .ok (.putfield 20, 3) := sorry
theorem dX2_init_68 : decode cX2_init 68 = .ok (.aload_n 0, 1) := sorry
theorem dX2_init_69 : decode cX2_init 69 = .ok (.lconst 1, 1) := sorry
theorem dX2_init_70 : decode cX2_init 70 = .ok (.putfield 23, 3) := sorry
theorem dX2_init_73 : decode cX2_init 73 = .ok (.aload_n 0, 1) := sorry
theorem dX2_init_74 : decode cX2_init 74 = .ok (.lconst 1, 1) := sorry
theorem dX2_init_75 : decode cX2_init 75 = .ok (.putfield 27, 3) := sorry
theorem dX2_init_78 : decode cX2_init 78 = .ok (.return_, 1) := sorry
set_option maxRecDepth 20000 in
theorem ggX2_start_X2_forget : GoodIn wsX2_start wsX2_forget := sorry
set_option maxRecDepth 20000 in
theorem gX2_start_X2_forget : GoodIn wsX2_start (wsV RX2 30 RX2 yX2_forget wsX2_forget) := sorry
theorem dX2_start_0 : decode cX2_start 0 = .ok (.aload_n 0, 1) := sorry
theorem dX2_start_1 : decode cX2_start 1 = .ok (.iload_n 1, 1) := sorry
theorem dX2_start_2 : decode cX2_start 2 = .ok (.putfield 16, 3) := sorry
theorem dX2_start_5 : decode cX2_start 5 = .ok (.aload_n 0, 1) := sorry
theorem dX2_start_6 : decode cX2_start 6 = .ok (.iload_n 2, 1) := sorry
theorem dX2_start_7 : decode cX2_start 7 = .ok (.putfield 20, 3) := sorry
theorem dX2_start_10 : decode cX2_start 10 = .ok (.aload_n 0, 1) := sorry
theorem dX2_start_11 : decode cX2_start 11 = .ok (.invokevirtual 30, 3) := sorry
theorem dX2_start_14 : decode cX2_start 14 = .ok (.return_, 1) := sorry
theorem dX2_forget_0 : decode cX2_forget 0 = .ok (.aload_n 0, 1) := sorry
theorem dX2_forget_1 : decode cX2_forget 1 = .ok (.aload_n 0, 1) := sorry
theorem dX2_forget_2 : decode cX2_forget 2 = .ok (.getfield 16, 3) := sorry
theorem dX2_forget_5 : decode cX2_forget 5 = .ok (.i2l, 1) := sorry
theorem dX2_forget_6 : decode cX2_forget 6 = .ok (.putfield 23, 3) := sorry
theorem dX2_forget_9 : decode cX2_forget 9 = .ok (.aload_n 0, 1) := sorry
theorem dX2_forget_10 : decode cX2_forget 10 = .ok (.aload_n 0, 1) := sorry
theorem dX2_forget_11 : decode cX2_forget 11 = .ok (.getfield 20, 3) := sorry
theorem dX2_forget_14 : decode cX2_forget 14 = .ok (.i2l, 1) := sorry
theorem dX2_forget_15 : decode cX2_forget 15 = .ok (.putfield 27, 3) := sorry
theorem dX2_forget_18 : decode cX2_forget 18 = .ok (.aload_n 0, 1) := sorry
theorem dX2_forget_19 : decode cX2_forget 19 = .ok (.iconst 0, 1) := sorry
theorem dX2_forget_20 : decode cX2_forget 20 = .ok (.putfield 33, 3) := sorry
theorem dX2_forget_23 : decode cX2_forget 23 = .ok (.return_, 1) := sorry
theorem dX2_add_0 : decode cX2_add 0 = .ok (.aload_n 0, 1) := sorry
theorem dX2_add_1 : decode cX2_add 1 = .ok (.getfield 33, 3) := sorry
theorem dX2_add_4 : decode cX2_add 4 = .ok (.bipush 12, 2) := sorry
theorem dX2_add_6 : decode cX2_add 6 = .ok (.if_icmp .lt 5, 3) := sorry
theorem dX2_add_9 : decode cX2_add 9 = .ok (.iconst (-1), 1) := sorry
theorem dX2_add_10 : decode cX2_add 10 = .ok (.ireturn, 1) := sorry
theorem dX2_add_11 : decode cX2_add 11 = .ok (.aload_n 0, 1) := sorry
theorem dX2_add_12 : decode cX2_add 12 = .ok (.dup, 1) := sorry
theorem dX2_add_13 : decode cX2_add 13 = .ok (.getfield 23, 3) := sorry
theorem dX2_add_16 : decode cX2_add 16 = .ok (.iload_n 1, 1) := sorry
theorem dX2_add_17 : decode cX2_add 17 = .ok (.i2l, 1) := sorry
theorem dX2_add_18 : decode cX2_add 18 = .ok (.lmul, 1) := sorry
theorem dX2_add_19 : decode cX2_add 19 = .ok (.putfield 23, 3) := sorry
theorem dX2_add_22 : decode cX2_add 22 = .ok (.aload_n 0, 1) := sorry
theorem dX2_add_23 : decode cX2_add 23 = .ok (.dup, 1) := sorry
theorem dX2_add_24 : decode cX2_add 24 = .ok (.getfield 27, 3) := sorry
theorem dX2_add_27 : decode cX2_add 27 = .ok (.iload_n 2, 1) := sorry
theorem dX2_add_28 : decode cX2_add 28 = .ok (.i2l, 1) := sorry
theorem dX2_add_29 : decode cX2_add 29 = .ok (.lmul, 1) := sorry
theorem dX2_add_30 : decode cX2_add 30 = .ok (.putfield 27, 3) := sorry
theorem dX2_add_33 : decode cX2_add 33 = .ok (.aload_n 0, 1) := sorry
theorem dX2_add_34 : decode cX2_add 34 = .ok (.dup, 1) := sorry
theorem dX2_add_35 : decode cX2_add 35 = .ok (.getfield 33, 3) := sorry
theorem dX2_add_38 : decode cX2_add 38 = .ok (.iconst 1, 1) := sorry
theorem dX2_add_39 : decode cX2_add 39 = .ok (.iadd, 1) := sorry
theorem dX2_add_40 : decode cX2_add 40 = .ok (.putfield 33, 3) := sorry
theorem dX2_add_43 : decode cX2_add 43 = .ok (.aload_n 0, 1) := sorry
theorem dX2_add_44 : decode cX2_add 44 = .ok (.getfield 33, 3) := sorry
theorem dX2_add_47 : decode cX2_add 47 = .ok (.ireturn, 1) := sorry
theorem dX2_leastTerm_0 : decode cX2_leastTerm 0 = .ok (.aload_n 0, 1) := sorry
theorem dX2_leastTerm_1 : decode cX2_leastTerm 1 = .ok (.getfield 23, 3) := sorry
theorem dX2_leastTerm_4 : decode cX2_leastTerm 4 = .ok (.lstore_n 2, 1) := sorry
theorem dX2_leastTerm_5 : decode cX2_leastTerm 5 = .ok (.aload_n 0, 1) := sorry
theorem dX2_leastTerm_6 : decode cX2_leastTerm 6 = .ok (.getfield 27, 3) := sorry
theorem dX2_leastTerm_9 : decode cX2_leastTerm 9 = .ok (.lstore 4, 2) := sorry
theorem dX2_leastTerm_11 : decode cX2_leastTerm 11 = .ok (.iconst 0, 1) := sorry
theorem dX2_leastTerm_12 : decode cX2_leastTerm 12 = .ok (.istore 6, 2) := sorry
theorem dX2_leastTerm_14 : decode cX2_leastTerm 14 = .ok (.iload 6, 2) := sorry
theorem dX2_leastTerm_16 : decode cX2_leastTerm 16 = .ok (.sipush 200, 3) := sorry
theorem dX2_leastTerm_19 : decode cX2_leastTerm 19 = .ok (.if_icmp .ge 29, 3) := sorry
theorem dX2_leastTerm_22 : decode cX2_leastTerm 22 = .ok (.lload 4, 2) := sorry
theorem dX2_leastTerm_24 : decode cX2_leastTerm 24 = .ok (.lconst 0, 1) := sorry
theorem dX2_leastTerm_25 : decode cX2_leastTerm 25 = .ok (.lcmp, 1) := sorry
theorem dX2_leastTerm_26 : decode cX2_leastTerm 26 = .ok (.ifCond .eq 22, 3) := sorry
theorem dX2_leastTerm_29 : decode cX2_leastTerm 29 = .ok (.lload_n 2, 1) := sorry
theorem dX2_leastTerm_30 : decode cX2_leastTerm 30 = .ok (.lload 4, 2) := sorry
theorem dX2_leastTerm_32 : decode cX2_leastTerm 32 = .ok (.lrem, 1) := sorry
theorem dX2_leastTerm_33 : decode cX2_leastTerm 33 = .ok (.lstore 7, 2) := sorry
theorem dX2_leastTerm_35 : decode cX2_leastTerm 35 = .ok (.lload 4, 2) := sorry
theorem dX2_leastTerm_37 : decode cX2_leastTerm 37 = .ok (.lstore_n 2, 1) := sorry
theorem dX2_leastTerm_38 : decode cX2_leastTerm 38 = .ok (.lload 7, 2) := sorry
theorem dX2_leastTerm_40 : decode cX2_leastTerm 40 = .ok (.lstore 4, 2) := sorry
theorem dX2_leastTerm_42 : decode cX2_leastTerm 42 = .ok (.iinc 6 1, 3) := sorry
theorem dX2_leastTerm_45 : decode cX2_leastTerm 45 = .ok (.goto (-31), 3) := sorry
theorem dX2_leastTerm_48 : decode cX2_leastTerm 48 = .ok (.iload_n 1, 1) := sorry
theorem dX2_leastTerm_49 : decode cX2_leastTerm 49 = .ok (.ifCond .eq 10, 3) := sorry
theorem dX2_leastTerm_52 : decode cX2_leastTerm 52 = .ok (.aload_n 0, 1) := sorry
theorem dX2_leastTerm_53 : decode cX2_leastTerm 53 = .ok (.getfield 23, 3) := sorry
theorem dX2_leastTerm_56 : decode cX2_leastTerm 56 = .ok (.goto 7, 3) := sorry
theorem dX2_leastTerm_59 : decode cX2_leastTerm 59 = .ok (.aload_n 0, 1) := sorry
theorem dX2_leastTerm_60 : decode cX2_leastTerm 60 = .ok (.getfield 27, 3) := sorry
theorem dX2_leastTerm_63 : decode cX2_leastTerm 63 = .ok (.lstore 6, 2) := sorry
theorem dX2_leastTerm_65 : decode cX2_leastTerm 65 = .ok (.lload_n 2, 1) := sorry
theorem dX2_leastTerm_66 : decode cX2_leastTerm 66 = .ok (.lconst 0, 1) := sorry
theorem dX2_leastTerm_67 : decode cX2_leastTerm 67 = .ok (.lcmp, 1) := sorry
theorem dX2_leastTerm_68 : decode cX2_leastTerm 68 = .ok (.ifCond .le 10, 3) := sorry
theorem dX2_leastTerm_71 : decode cX2_leastTerm 71 = .ok (.lload 6, 2) := sorry
theorem dX2_leastTerm_73 : decode cX2_leastTerm 73 = .ok (.lload_n 2, 1) := sorry
theorem dX2_leastTerm_74 : decode cX2_leastTerm 74 = .ok (.ldiv, 1) := sorry
theorem dX2_leastTerm_75 : decode cX2_leastTerm 75 = .ok (.goto 5, 3) := sorry
theorem dX2_leastTerm_78 : decode cX2_leastTerm 78 = .ok (.lload 6, 2) := sorry
theorem dX2_leastTerm_80 : decode cX2_leastTerm 80 = .ok (.lreturn, 1) := sorry
theorem dX2_take_0 : decode cX2_take 0 = .ok (.aload_n 1, 1) := sorry
theorem dX2_take_1 : decode cX2_take 1 = .ok (.getfield 7, 3) := sorry
theorem dX2_take_4 : decode cX2_take 4 = .ok (.iconst 0, 1) := sorry
theorem dX2_take_5 : decode cX2_take 5 = .ok (.aload_n 0, 1) := sorry
theorem dX2_take_6 : decode cX2_take 6 = .ok (.getfield 7, 3) := sorry
theorem dX2_take_9 : decode cX2_take 9 = .ok (.iconst 0, 1) := sorry
theorem dX2_take_10 : decode cX2_take 10 = .ok (.iconst 4, 1) := sorry
theorem dX2_take_11 : decode cX2_take 11 = .ok (.invokestatic 36, 3) := sorry
theorem dX2_take_14 : decode cX2_take 14 = .ok (.aload_n 1, 1) := sorry
theorem dX2_take_15 : decode cX2_take 15 = .ok (.getfield 13, 3) := sorry
theorem dX2_take_18 : decode cX2_take 18 = .ok (.iconst 0, 1) := sorry
theorem dX2_take_19 : decode cX2_take 19 = .ok (.aload_n 0, 1) := sorry
theorem dX2_take_20 : decode cX2_take 20 = .ok (.getfield 13, 3) := sorry
theorem dX2_take_23 : decode cX2_take 23 = .ok (.iconst 0, 1) := sorry
theorem dX2_take_24 : decode cX2_take 24 = .ok (.iconst 4, 1) := sorry
theorem dX2_take_25 : decode cX2_take 25 = .ok (.invokestatic 36, 3) := sorry
theorem dX2_take_28 : decode cX2_take 28 = .ok (.aload_n 0, 1) := sorry
theorem dX2_take_29 : decode cX2_take 29 = .ok (.aload_n 1, 1) := sorry
theorem dX2_take_30 : decode cX2_take 30 = .ok (.getfield 16, 3) := sorry
theorem dX2_take_33 : decode cX2_take 33 = .ok (.putfield 16, 3) := sorry
theorem dX2_take_36 : decode cX2_take 36 = .ok (.aload_n 0, 1) := sorry
theorem dX2_take_37 : decode cX2_take 37 = .ok (.aload_n 1, 1) := sorry
theorem dX2_take_38 : decode cX2_take 38 = .ok (.getfield 20, 3) := sorry
theorem dX2_take_41 : decode cX2_take 41 = .ok (.putfield 20, 3) := sorry
theorem dX2_take_44 : decode cX2_take 44 = .ok (.aload_n 0, 1) := sorry
theorem dX2_take_45 : decode cX2_take 45 = .ok (.aload_n 1, 1) := sorry
theorem dX2_take_46 : decode cX2_take 46 = .ok (.getfield 23, 3) := sorry
theorem dX2_take_49 : decode cX2_take 49 = .ok (.putfield 23, 3) := sorry
theorem dX2_take_52 : decode cX2_take 52 = .ok (.aload_n 0, 1) := sorry
theorem dX2_take_53 : decode cX2_take 53 = .ok (.aload_n 1, 1) := sorry
theorem dX2_take_54 : decode cX2_take 54 = .ok (.getfield 27, 3) := sorry
theorem dX2_take_57 : decode cX2_take 57 = .ok (.putfield 27, 3) := sorry
theorem dX2_take_60 : decode cX2_take 60 = .ok (.aload_n 0, 1) := sorry
theorem dX2_take_61 : decode cX2_take 61 = .ok (.aload_n 1, 1) := sorry
theorem dX2_take_62 : decode cX2_take 62 = .ok (.getfield 33, 3) := sorry
theorem dX2_take_65 : decode cX2_take 65 = .ok (.putfield 33, 3) := sorry
theorem dX2_take_68 : decode cX2_take 68 = .ok (.return_, 1) := sorry
theorem dX3_init_0 : decode cX3_init 0 = .ok (.aload_n 0, 1) := sorry
theorem dX3_init_1 : decode cX3_init 1 = .ok (.invokespecial 1, 3) := sorry
theorem dX3_init_4 : decode cX3_init 4 = .ok (.aload_n 0, 1) := sorry
theorem dX3_init_5 : decode cX3_init 5 = .ok (.bipush 36, 2) := sorry
theorem dX3_init_7 : decode cX3_init 7 = .ok (.newarray .int, 2) := sorry
theorem dX3_init_9 : decode cX3_init 9 = .ok (.putfield 9, 3) := sorry
theorem dX3_init_12 : decode cX3_init 12 = .ok (.aload_n 0, 1) := sorry
theorem dX3_init_13 : decode cX3_init 13 = .ok (.bipush 39, 2) := sorry
theorem dX3_init_15 : decode cX3_init 15 = .ok (.newarray .int, 2) := sorry
theorem dX3_init_17 : decode cX3_init 17 = .ok (.putfield 13, 3) := sorry
theorem dX3_init_20 : decode cX3_init 20 = .ok (.return_, 1) := sorry
set_option maxRecDepth 20000 in
theorem ggX3_clear_J7_fill_53178 : GoodIn wsX3_clear wsJ7_fill_53178 := sorry
set_option maxRecDepth 20000 in
theorem gX3_clear_J7_fill_53178 : GoodIn wsX3_clear (va_wsS RX3 16 yJ7_fill_53178 wsJ7_fill_53178) := sorry
theorem dX3_clear_0 : decode cX3_clear 0 = .ok (.aload_n 0, 1) := sorry
theorem dX3_clear_1 : decode cX3_clear 1 = .ok (.getfield 9, 3) := sorry
theorem dX3_clear_4 : decode cX3_clear 4 = .ok (.iconst 0, 1) := sorry
theorem dX3_clear_5 : decode cX3_clear 5 = .ok (.invokestatic 16, 3) := sorry
theorem dX3_clear_8 : decode cX3_clear 8 = .ok (.return_, 1) := sorry
theorem dX3_bid_0 : decode cX3_bid 0 = .ok (.iload_n 2, 1) := sorry
theorem dX3_bid_1 : decode cX3_bid 1 = .ok (.iconst 3, 1) := sorry
theorem dX3_bid_2 : decode cX3_bid 2 = .ok (.imul, 1) := sorry
theorem dX3_bid_3 : decode cX3_bid 3 = .ok (.iload_n 1, 1) := sorry
theorem dX3_bid_4 : decode cX3_bid 4 = .ok (.iadd, 1) := sorry
theorem dX3_bid_5 : decode cX3_bid 5 = .ok (.istore 4, 2) := sorry
theorem dX3_bid_7 : decode cX3_bid 7 = .ok (.aload_n 0, 1) := sorry
theorem dX3_bid_8 : decode cX3_bid 8 = .ok (.getfield 9, 3) := sorry
theorem dX3_bid_11 : decode cX3_bid 11 = .ok (.iload 4, 2) := sorry
theorem dX3_bid_13 : decode cX3_bid 13 = .ok (.iaload, 1) := sorry
theorem dX3_bid_14 : decode cX3_bid 14 = .ok (.istore 5, 2) := sorry
theorem dX3_bid_16 : decode cX3_bid 16 = .ok (.aload_n 0, 1) := sorry
theorem dX3_bid_17 : decode cX3_bid 17 = .ok (.getfield 9, 3) := sorry
theorem dX3_bid_20 : decode cX3_bid 20 = .ok (.iload 4, 2) := sorry
theorem dX3_bid_22 : decode cX3_bid 22 = .ok (.iload_n 3, 1) := sorry
theorem dX3_bid_23 : decode cX3_bid 23 = .ok (.iastore, 1) := sorry
theorem dX3_bid_24 : decode cX3_bid 24 = .ok (.iload 5, 2) := sorry
theorem dX3_bid_26 : decode cX3_bid 26 = .ok (.ireturn, 1) := sorry
set_option maxRecDepth 20000 in
theorem ggX3_mostCoin_X3_mostFrom : GoodIn wsX3_mostCoin wsX3_mostFrom := sorry
set_option maxRecDepth 20000 in
theorem gX3_mostCoin_X3_mostFrom : GoodIn wsX3_mostCoin (wsV RX3 22 RX3 yX3_mostFrom wsX3_mostFrom) := sorry
theorem dX3_mostCoin_0 : decode cX3_mostCoin 0 = .ok (.bipush 11, 2) := sorry
theorem dX3_mostCoin_2 : decode cX3_mostCoin 2 = .ok (.istore_n 1, 1) := sorry
theorem dX3_mostCoin_3 : decode cX3_mostCoin 3 = .ok (.iload_n 1, 1) := sorry
theorem dX3_mostCoin_4 : decode cX3_mostCoin 4 = .ok (.ifCond .lt 38, 3) := sorry
theorem dX3_mostCoin_7 : decode cX3_mostCoin 7 = .ok (.iconst 0, 1) := sorry
theorem dX3_mostCoin_8 : decode cX3_mostCoin 8 = .ok (.istore_n 2, 1) := sorry
theorem dX3_mostCoin_9 : decode cX3_mostCoin 9 = .ok (.iload_n 2, 1) := sorry
theorem dX3_mostCoin_10 : decode cX3_mostCoin 10 = .ok (.iconst 3, 1) := sorry
theorem dX3_mostCoin_11 : decode cX3_mostCoin 11 = .ok (.if_icmp .ge 25, 3) := sorry
theorem dX3_mostCoin_14 : decode cX3_mostCoin 14 = .ok (.aload_n 0, 1) := sorry
theorem dX3_mostCoin_15 : decode cX3_mostCoin 15 = .ok (.getfield 13, 3) := sorry
theorem dX3_mostCoin_18 : decode cX3_mostCoin 18 = .ok (.iload_n 1, 1) := sorry
theorem dX3_mostCoin_19 : decode cX3_mostCoin 19 = .ok (.iconst 3, 1) := sorry
theorem dX3_mostCoin_20 : decode cX3_mostCoin 20 = .ok (.imul, 1) := sorry
theorem dX3_mostCoin_21 : decode cX3_mostCoin 21 = .ok (.iload_n 2, 1) := sorry
theorem dX3_mostCoin_22 : decode cX3_mostCoin 22 = .ok (.iadd, 1) := sorry
theorem dX3_mostCoin_23 : decode cX3_mostCoin 23 = .ok (.aload_n 0, 1) := sorry
theorem dX3_mostCoin_24 : decode cX3_mostCoin 24 = .ok (.iload_n 1, 1) := sorry
theorem dX3_mostCoin_25 : decode cX3_mostCoin 25 = .ok (.iload_n 2, 1) := sorry
theorem dX3_mostCoin_26 : decode cX3_mostCoin 26 = .ok (.invokevirtual 22, 3) := sorry
theorem dX3_mostCoin_29 : decode cX3_mostCoin 29 = .ok (.iastore, 1) := sorry
theorem dX3_mostCoin_30 : decode cX3_mostCoin 30 = .ok (.iinc 2 1, 3) := sorry
theorem dX3_mostCoin_33 : decode cX3_mostCoin 33 = .ok (.goto (-24), 3) := sorry
theorem dX3_mostCoin_36 : decode cX3_mostCoin 36 = .ok (.iinc 1 (-1), 3) := sorry
theorem dX3_mostCoin_39 : decode cX3_mostCoin 39 = .ok (.goto (-36), 3) := sorry
theorem dX3_mostCoin_42 : decode cX3_mostCoin 42 = .ok (.aload_n 0, 1) := sorry
theorem dX3_mostCoin_43 : decode cX3_mostCoin 43 = .ok (.getfield 13, 3) := sorry
theorem dX3_mostCoin_46 : decode cX3_mostCoin 46 = .ok (.iconst 0, 1) := sorry
theorem dX3_mostCoin_47 : decode cX3_mostCoin 47 = .ok (.iaload, 1) := sorry
theorem dX3_mostCoin_48 : decode cX3_mostCoin 48 = .ok (.ireturn, 1) := sorry
set_option maxRecDepth 20000 in
theorem ggX3_mostFrom_X3_mayFollow : GoodIn wsX3_mostFrom wsX3_mayFollow := sorry
set_option maxRecDepth 20000 in
theorem gX3_mostFrom_X3_mayFollow : GoodIn wsX3_mostFrom (va_wsS RX3 26 yX3_mayFollow wsX3_mayFollow) := sorry
set_option maxRecDepth 20000 in
theorem ggX3_mostFrom_X3_through : GoodIn wsX3_mostFrom wsX3_through := sorry
set_option maxRecDepth 20000 in
theorem gX3_mostFrom_X3_through : GoodIn wsX3_mostFrom (wsV RX3 30 RX3 yX3_through wsX3_through) := sorry
theorem dX3_mostFrom_0 : decode cX3_mostFrom 0 = .ok (.iconst 0, 1) := sorry
theorem dX3_mostFrom_1 : decode cX3_mostFrom 1 = .ok (.istore_n 3, 1) := sorry
theorem dX3_mostFrom_2 : decode cX3_mostFrom 2 = .ok (.iconst 0, 1) := sorry
theorem dX3_mostFrom_3 : decode cX3_mostFrom 3 = .ok (.istore 4, 2) := sorry
theorem dX3_mostFrom_5 : decode cX3_mostFrom 5 = .ok (.iload 4, 2) := sorry
theorem dX3_mostFrom_7 : decode cX3_mostFrom 7 = .ok (.iconst 3, 1) := sorry
theorem dX3_mostFrom_8 : decode cX3_mostFrom 8 = .ok (.if_icmp .ge 30, 3) := sorry
theorem dX3_mostFrom_11 : decode cX3_mostFrom 11 = .ok (.iload_n 2, 1) := sorry
theorem dX3_mostFrom_12 : decode cX3_mostFrom 12 = .ok (.iload 4, 2) := sorry
theorem dX3_mostFrom_14 : decode cX3_mostFrom 14 = .ok (.invokestatic 26, 3) := sorry
theorem dX3_mostFrom_17 : decode cX3_mostFrom 17 = .ok (.ifCond .eq 15, 3) := sorry
theorem dX3_mostFrom_20 : decode cX3_mostFrom 20 = .ok (.iload_n 3, 1) := sorry
theorem dX3_mostFrom_21 : decode cX3_mostFrom 21 = .ok (.aload_n 0, 1) := sorry
theorem dX3_mostFrom_22 : decode cX3_mostFrom 22 = .ok (.iload_n 1, 1) := sorry
theorem dX3_mostFrom_23 : decode cX3_mostFrom 23 = .ok (.iload 4, 2) := sorry
theorem dX3_mostFrom_25 : decode cX3_mostFrom 25 = .ok (.invokevirtual 30, 3) := sorry
theorem dX3_mostFrom_28 : decode cX3_mostFrom 28 = .ok (.invokestatic 33, 3) := sorry
theorem dX3_mostFrom_31 : decode cX3_mostFrom 31 = .ok (.istore_n 3, 1) := sorry
theorem dX3_mostFrom_32 : decode cX3_mostFrom 32 = .ok (.iinc 4 1, 3) := sorry
theorem dX3_mostFrom_35 : decode cX3_mostFrom 35 = .ok (.goto (-30), 3) := sorry
theorem dX3_mostFrom_38 : decode cX3_mostFrom 38 = .ok (.iload_n 3, 1) := sorry
theorem dX3_mostFrom_39 : decode cX3_mostFrom 39 = .ok (.ireturn, 1) := sorry
theorem dX3_through_0 : decode cX3_through 0 = .ok (.aload_n 0, 1) := sorry
theorem dX3_through_1 : decode cX3_through 1 = .ok (.getfield 9, 3) := sorry
theorem dX3_through_4 : decode cX3_through 4 = .ok (.iload_n 1, 1) := sorry
theorem dX3_through_5 : decode cX3_through 5 = .ok (.iconst 3, 1) := sorry
theorem dX3_through_6 : decode cX3_through 6 = .ok (.imul, 1) := sorry
theorem dX3_through_7 : decode cX3_through 7 = .ok (.iload_n 2, 1) := sorry
theorem dX3_through_8 : decode cX3_through 8 = .ok (.iadd, 1) := sorry
theorem dX3_through_9 : decode cX3_through 9 = .ok (.iaload, 1) := sorry
theorem dX3_through_10 : decode cX3_through 10 = .ok (.aload_n 0, 1) := sorry
theorem dX3_through_11 : decode cX3_through 11 = .ok (.getfield 13, 3) := sorry
theorem dX3_through_14 : decode cX3_through 14 = .ok (.iload_n 1, 1) := sorry
theorem dX3_through_15 : decode cX3_through 15 = .ok (.iconst 1, 1) := sorry
theorem dX3_through_16 : decode cX3_through 16 = .ok (.iadd, 1) := sorry
theorem dX3_through_17 : decode cX3_through 17 = .ok (.iconst 3, 1) := sorry
theorem dX3_through_18 : decode cX3_through 18 = .ok (.imul, 1) := sorry
theorem dX3_through_19 : decode cX3_through 19 = .ok (.iload_n 2, 1) := sorry
theorem dX3_through_20 : decode cX3_through 20 = .ok (.iadd, 1) := sorry
theorem dX3_through_21 : decode cX3_through 21 = .ok (.iaload, 1) := sorry
theorem dX3_through_22 : decode cX3_through 22 = .ok (.iadd, 1) := sorry
theorem dX3_through_23 : decode cX3_through 23 = .ok (.ireturn, 1) := sorry
theorem dX3_mayFollow_0 : decode cX3_mayFollow 0 = .ok (.iload_n 0, 1) := sorry
theorem dX3_mayFollow_1 : decode cX3_mayFollow 1 = .ok (.ifCond .eq 12, 3) := sorry
theorem dX3_mayFollow_4 : decode cX3_mayFollow 4 = .ok (.iload_n 1, 1) := sorry
theorem dX3_mayFollow_5 : decode cX3_mayFollow 5 = .ok (.ifCond .eq 8, 3) := sorry
theorem dX3_mayFollow_8 : decode cX3_mayFollow 8 = .ok (.iload_n 0, 1) := sorry
theorem dX3_mayFollow_9 : decode cX3_mayFollow 9 = .ok (.iload_n 1, 1) := sorry
theorem dX3_mayFollow_10 : decode cX3_mayFollow 10 = .ok (.if_icmp .ne 7, 3) := sorry
theorem dX3_mayFollow_13 : decode cX3_mayFollow 13 = .ok (.iconst 1, 1) := sorry
theorem dX3_mayFollow_14 : decode cX3_mayFollow 14 = .ok (.goto 4, 3) := sorry
theorem dX3_mayFollow_17 : decode cX3_mayFollow 17 = .ok (.iconst 0, 1) := sorry
theorem dX3_mayFollow_18 : decode cX3_mayFollow 18 = .ok (.ireturn, 1) := sorry
set_option maxRecDepth 20000 in
theorem ggX3_served_X3_mostCoin : GoodIn wsX3_served wsX3_mostCoin := sorry
set_option maxRecDepth 20000 in
theorem gX3_served_X3_mostCoin : GoodIn wsX3_served (wsV RX3 38 RX3 yX3_mostCoin wsX3_mostCoin) := sorry
set_option maxRecDepth 20000 in
theorem ggX3_served_X3_firstWay : GoodIn wsX3_served wsX3_firstWay := sorry
set_option maxRecDepth 20000 in
theorem gX3_served_X3_firstWay : GoodIn wsX3_served (wsV RX3 42 RX3 yX3_firstWay wsX3_firstWay) := sorry
theorem dX3_served_0 : decode cX3_served 0 = .ok (.aload_n 0, 1) := sorry
theorem dX3_served_1 : decode cX3_served 1 = .ok (.invokevirtual 38, 3) := sorry
theorem dX3_served_4 : decode cX3_served 4 = .ok (.pop, 1) := sorry
theorem dX3_served_5 : decode cX3_served 5 = .ok (.iconst 0, 1) := sorry
theorem dX3_served_6 : decode cX3_served 6 = .ok (.istore_n 2, 1) := sorry
theorem dX3_served_7 : decode cX3_served 7 = .ok (.iconst 0, 1) := sorry
theorem dX3_served_8 : decode cX3_served 8 = .ok (.istore_n 3, 1) := sorry
theorem dX3_served_9 : decode cX3_served 9 = .ok (.iload_n 3, 1) := sorry
theorem dX3_served_10 : decode cX3_served 10 = .ok (.iload_n 1, 1) := sorry
theorem dX3_served_11 : decode cX3_served 11 = .ok (.if_icmp .gt 22, 3) := sorry
theorem dX3_served_14 : decode cX3_served 14 = .ok (.iload_n 3, 1) := sorry
theorem dX3_served_15 : decode cX3_served 15 = .ok (.bipush 12, 2) := sorry
theorem dX3_served_17 : decode cX3_served 17 = .ok (.if_icmp .ge 16, 3) := sorry
theorem dX3_served_20 : decode cX3_served 20 = .ok (.aload_n 0, 1) := sorry
theorem dX3_served_21 : decode cX3_served 21 = .ok (.iload_n 3, 1) := sorry
theorem dX3_served_22 : decode cX3_served 22 = .ok (.iload_n 2, 1) := sorry
theorem dX3_served_23 : decode cX3_served 23 = .ok (.invokevirtual 42, 3) := sorry
theorem dX3_served_26 : decode cX3_served 26 = .ok (.istore_n 2, 1) := sorry
theorem dX3_served_27 : decode cX3_served 27 = .ok (.iinc 3 1, 3) := sorry
theorem dX3_served_30 : decode cX3_served 30 = .ok (.goto (-21), 3) := sorry
theorem dX3_served_33 : decode cX3_served 33 = .ok (.iload_n 2, 1) := sorry
theorem dX3_served_34 : decode cX3_served 34 = .ok (.ireturn, 1) := sorry
set_option maxRecDepth 20000 in
theorem ggX3_firstWay_X3_mayFollow : GoodIn wsX3_firstWay wsX3_mayFollow := sorry
set_option maxRecDepth 20000 in
theorem gX3_firstWay_X3_mayFollow : GoodIn wsX3_firstWay (va_wsS RX3 26 yX3_mayFollow wsX3_mayFollow) := sorry
set_option maxRecDepth 20000 in
theorem ggX3_firstWay_X3_through : GoodIn wsX3_firstWay wsX3_through := sorry
set_option maxRecDepth 20000 in
theorem gX3_firstWay_X3_through : GoodIn wsX3_firstWay (wsV RX3 30 RX3 yX3_through wsX3_through) := sorry
theorem dX3_firstWay_0 : decode cX3_firstWay 0 = .ok (.iconst 0, 1) := sorry
theorem dX3_firstWay_1 : decode cX3_firstWay 1 = .ok (.istore_n 3, 1) := sorry
theorem dX3_firstWay_2 : decode cX3_firstWay 2 = .ok (.iload_n 3, 1) := sorry
theorem dX3_firstWay_3 : decode cX3_firstWay 3 = .ok (.iconst 3, 1) := sorry
theorem dX3_firstWay_4 : decode cX3_firstWay 4 = .ok (.if_icmp .ge 38, 3) := sorry
theorem dX3_firstWay_7 : decode cX3_firstWay 7 = .ok (.iload_n 2, 1) := sorry
theorem dX3_firstWay_8 : decode cX3_firstWay 8 = .ok (.iload_n 3, 1) := sorry
theorem dX3_firstWay_9 : decode cX3_firstWay 9 = .ok (.invokestatic 26, 3) := sorry
theorem dX3_firstWay_12 : decode cX3_firstWay 12 = .ok (.ifCond .eq 24, 3) := sorry
theorem dX3_firstWay_15 : decode cX3_firstWay 15 = .ok (.aload_n 0, 1) := sorry
theorem dX3_firstWay_16 : decode cX3_firstWay 16 = .ok (.iload_n 1, 1) := sorry
theorem dX3_firstWay_17 : decode cX3_firstWay 17 = .ok (.iload_n 3, 1) := sorry
theorem dX3_firstWay_18 : decode cX3_firstWay 18 = .ok (.invokevirtual 30, 3) := sorry
theorem dX3_firstWay_21 : decode cX3_firstWay 21 = .ok (.aload_n 0, 1) := sorry
theorem dX3_firstWay_22 : decode cX3_firstWay 22 = .ok (.getfield 13, 3) := sorry
theorem dX3_firstWay_25 : decode cX3_firstWay 25 = .ok (.iload_n 1, 1) := sorry
theorem dX3_firstWay_26 : decode cX3_firstWay 26 = .ok (.iconst 3, 1) := sorry
theorem dX3_firstWay_27 : decode cX3_firstWay 27 = .ok (.imul, 1) := sorry
theorem dX3_firstWay_28 : decode cX3_firstWay 28 = .ok (.iload_n 2, 1) := sorry
theorem dX3_firstWay_29 : decode cX3_firstWay 29 = .ok (.iadd, 1) := sorry
theorem dX3_firstWay_30 : decode cX3_firstWay 30 = .ok (.iaload, 1) := sorry
theorem dX3_firstWay_31 : decode cX3_firstWay 31 = .ok (.if_icmp .ne 5, 3) := sorry
theorem dX3_firstWay_34 : decode cX3_firstWay 34 = .ok (.iload_n 3, 1) := sorry
theorem dX3_firstWay_35 : decode cX3_firstWay 35 = .ok (.ireturn, 1) := sorry
theorem dX3_firstWay_36 : decode cX3_firstWay 36 = .ok (.iinc 3 1, 3) := sorry
theorem dX3_firstWay_39 : decode cX3_firstWay 39 = .ok (.goto (-37), 3) := sorry
theorem dX3_firstWay_42 : decode cX3_firstWay 42 = .ok (.iconst 0, 1) := sorry
theorem dX3_firstWay_43 : decode cX3_firstWay 43 = .ok (.ireturn, 1) := sorry
theorem dX3_take_0 : decode cX3_take 0 = .ok (.aload_n 1, 1) := sorry
theorem dX3_take_1 : decode cX3_take 1 = .ok (.getfield 9, 3) := sorry
theorem dX3_take_4 : decode cX3_take 4 = .ok (.iconst 0, 1) := sorry
theorem dX3_take_5 : decode cX3_take 5 = .ok (.aload_n 0, 1) := sorry
theorem dX3_take_6 : decode cX3_take 6 = .ok (.getfield 9, 3) := sorry
theorem dX3_take_9 : decode cX3_take 9 = .ok (.iconst 0, 1) := sorry
theorem dX3_take_10 : decode cX3_take 10 = .ok (.aload_n 0, 1) := sorry
theorem dX3_take_11 : decode cX3_take 11 = .ok (.getfield 9, 3) := sorry
theorem dX3_take_14 : decode cX3_take 14 = .ok (.arraylength, 1) := sorry
theorem dX3_take_15 : decode cX3_take 15 = .ok (.invokestatic 45, 3) := sorry
theorem dX3_take_18 : decode cX3_take 18 = .ok (.return_, 1) := sorry
theorem dX4_init_0 : decode cX4_init 0 = .ok (.aload_n 0, 1) := sorry
theorem dX4_init_1 : decode cX4_init 1 = .ok (.invokespecial 3, 3) := sorry
theorem dX4_init_4 : decode cX4_init 4 = .ok (.aload_n 0, 1) := sorry
theorem dX4_init_5 : decode cX4_init 5 = .ok (.bipush 24, 2) := sorry
theorem dX4_init_7 : decode cX4_init 7 = .ok (.newarray .int, 2) := sorry
theorem dX4_init_9 : decode cX4_init 9 = .ok (.putfield 9, 3) := sorry
theorem dX4_init_12 : decode cX4_init 12 = .ok (.aload_n 0, 1) := sorry
theorem dX4_init_13 : decode cX4_init 13 = .ok (.bipush 6, 2) := sorry
theorem dX4_init_15 : decode cX4_init 15 = .ok (.newarray .int, 2) := sorry
theorem dX4_init_17 : decode cX4_init 17 = .ok (.putfield 15, 3) := sorry
theorem dX4_init_20 : decode cX4_init 20 = .ok (.return_, 1) := sorry
set_option maxRecDepth 20000 in
theorem ggX4_begin_J7_fill_53178 : GoodIn wsX4_begin wsJ7_fill_53178 := sorry
set_option maxRecDepth 20000 in
theorem gX4_begin_J7_fill_53178 : GoodIn wsX4_begin (va_wsS RX4 22 yJ7_fill_53178 wsJ7_fill_53178) := sorry
theorem dX4_begin_0 : decode cX4_begin 0 = .ok (.aload_n 0, 1) := sorry
theorem dX4_begin_1 : decode cX4_begin 1 = .ok (.iconst 0, 1) := sorry
theorem dX4_begin_2 : decode cX4_begin 2 = .ok (.putfield 18, 3) := sorry
theorem dX4_begin_5 : decode cX4_begin 5 = .ok (.aload_n 0, 1) := sorry
theorem dX4_begin_6 : decode cX4_begin 6 = .ok (.getfield 9, 3) := sorry
theorem dX4_begin_9 : decode cX4_begin 9 = .ok (.iconst 0, 1) := sorry
theorem dX4_begin_10 : decode cX4_begin 10 = .ok (.invokestatic 22, 3) := sorry
theorem dX4_begin_13 : decode cX4_begin 13 = .ok (.aload_n 0, 1) := sorry
theorem dX4_begin_14 : decode cX4_begin 14 = .ok (.getfield 9, 3) := sorry
theorem dX4_begin_17 : decode cX4_begin 17 = .ok (.iconst 0, 1) := sorry
theorem dX4_begin_18 : decode cX4_begin 18 = .ok (.aload_n 1, 1) := sorry
theorem dX4_begin_19 : decode cX4_begin 19 = .ok (.getfield 28, 3) := sorry
theorem dX4_begin_22 : decode cX4_begin 22 = .ok (.iconst 3, 1) := sorry
theorem dX4_begin_23 : decode cX4_begin 23 = .ok (.iaload, 1) := sorry
theorem dX4_begin_24 : decode cX4_begin 24 = .ok (.iastore, 1) := sorry
theorem dX4_begin_25 : decode cX4_begin 25 = .ok (.aload_n 0, 1) := sorry
theorem dX4_begin_26 : decode cX4_begin 26 = .ok (.getfield 9, 3) := sorry
theorem dX4_begin_29 : decode cX4_begin 29 = .ok (.iconst 3, 1) := sorry
theorem dX4_begin_30 : decode cX4_begin 30 = .ok (.aload_n 1, 1) := sorry
theorem dX4_begin_31 : decode cX4_begin 31 = .ok (.getfield 28, 3) := sorry
theorem dX4_begin_34 : decode cX4_begin 34 = .ok (.iconst 4, 1) := sorry
theorem dX4_begin_35 : decode cX4_begin 35 = .ok (.iaload, 1) := sorry
theorem dX4_begin_36 : decode cX4_begin 36 = .ok (.iastore, 1) := sorry
theorem dX4_begin_37 : decode cX4_begin 37 = .ok (.aload_n 0, 1) := sorry
theorem dX4_begin_38 : decode cX4_begin 38 = .ok (.getfield 9, 3) := sorry
theorem dX4_begin_41 : decode cX4_begin 41 = .ok (.iconst 1, 1) := sorry
theorem dX4_begin_42 : decode cX4_begin 42 = .ok (.aload_n 1, 1) := sorry
theorem dX4_begin_43 : decode cX4_begin 43 = .ok (.getfield 28, 3) := sorry
theorem dX4_begin_46 : decode cX4_begin 46 = .ok (.bipush 6, 2) := sorry
theorem dX4_begin_48 : decode cX4_begin 48 = .ok (.iaload, 1) := sorry
theorem dX4_begin_49 : decode cX4_begin 49 = .ok (.iastore, 1) := sorry
theorem dX4_begin_50 : decode cX4_begin 50 = .ok (.aload_n 0, 1) := sorry
theorem dX4_begin_51 : decode cX4_begin 51 = .ok (.getfield 9, 3) := sorry
theorem dX4_begin_54 : decode cX4_begin 54 = .ok (.iconst 4, 1) := sorry
theorem dX4_begin_55 : decode cX4_begin 55 = .ok (.aload_n 1, 1) := sorry
theorem dX4_begin_56 : decode cX4_begin 56 = .ok (.getfield 28, 3) := sorry
theorem dX4_begin_59 : decode cX4_begin 59 = .ok (.bipush 7, 2) := sorry
theorem dX4_begin_61 : decode cX4_begin 61 = .ok (.iaload, 1) := sorry
theorem dX4_begin_62 : decode cX4_begin 62 = .ok (.iastore, 1) := sorry
theorem dX4_begin_63 : decode cX4_begin 63 = .ok (.aload_n 0, 1) := sorry
theorem dX4_begin_64 : decode cX4_begin 64 = .ok (.getfield 9, 3) := sorry
theorem dX4_begin_67 : decode cX4_begin 67 = .ok (.iconst 2, 1) := sorry
theorem dX4_begin_68 : decode cX4_begin 68 = .ok (.aload_n 1, 1) := sorry
theorem dX4_begin_69 : decode cX4_begin 69 = .ok (.getfield 28, 3) := sorry
theorem dX4_begin_72 : decode cX4_begin 72 = .ok (.bipush 9, 2) := sorry
theorem dX4_begin_74 : decode cX4_begin 74 = .ok (.iaload, 1) := sorry
theorem dX4_begin_75 : decode cX4_begin 75 = .ok (.iastore, 1) := sorry
theorem dX4_begin_76 : decode cX4_begin 76 = .ok (.aload_n 0, 1) := sorry
theorem dX4_begin_77 : decode cX4_begin 77 = .ok (.getfield 9, 3) := sorry
theorem dX4_begin_80 : decode cX4_begin 80 = .ok (.iconst 5, 1) := sorry
theorem dX4_begin_81 : decode cX4_begin 81 = .ok (.aload_n 1, 1) := sorry
theorem dX4_begin_82 : decode cX4_begin 82 = .ok (.getfield 28, 3) := sorry
theorem dX4_begin_85 : decode cX4_begin 85 = .ok (.bipush 12, 2) := sorry
theorem dX4_begin_87 : decode cX4_begin 87 = .ok (.iaload, 1) := sorry
theorem dX4_begin_88 : decode cX4_begin 88 = .ok (.iastore, 1) := sorry
theorem dX4_begin_89 : decode cX4_begin 89 = .ok (.aload_n 0, 1) := sorry
theorem dX4_begin_90 : decode cX4_begin 90 = .ok (.getfield 9, 3) := sorry
theorem dX4_begin_93 : decode cX4_begin 93 = .ok (.bipush 10, 2) := sorry
theorem dX4_begin_95 : decode cX4_begin 95 = .ok (.iconst (-1), 1) := sorry
theorem dX4_begin_96 : decode cX4_begin 96 = .ok (.iastore, 1) := sorry
theorem dX4_begin_97 : decode cX4_begin 97 = .ok (.iconst 0, 1) := sorry
theorem dX4_begin_98 : decode cX4_begin 98 = .ok (.istore_n 2, 1) := sorry
theorem dX4_begin_99 : decode cX4_begin 99 = .ok (.iload_n 2, 1) := sorry
theorem dX4_begin_100 : decode cX4_begin 100 = .ok (.aload_n 1, 1) := sorry
theorem dX4_begin_101 : decode cX4_begin 101 = .ok (.getfield 33, 3) := sorry
theorem dX4_begin_104 : decode cX4_begin 104 = .ok (.if_icmp .ge 24, 3) := sorry
theorem dX4_begin_107 : decode cX4_begin 107 = .ok (.aload_n 0, 1) := sorry
theorem dX4_begin_108 : decode cX4_begin 108 = .ok (.getfield 9, 3) := sorry
theorem dX4_begin_111 : decode cX4_begin 111 = .ok (.bipush 12, 2) := sorry
theorem dX4_begin_113 : decode cX4_begin 113 = .ok (.iload_n 2, 1) := sorry
theorem dX4_begin_114 : decode cX4_begin 114 = .ok (.iadd, 1) := sorry
theorem dX4_begin_115 : decode cX4_begin 115 = .ok (.aload_n 1, 1) := sorry
theorem dX4_begin_116 : decode cX4_begin 116 = .ok (.getfield 36, 3) := sorry
theorem dX4_begin_119 : decode cX4_begin 119 = .ok (.iload_n 2, 1) := sorry
theorem dX4_begin_120 : decode cX4_begin 120 = .ok (.iaload, 1) := sorry
theorem dX4_begin_121 : decode cX4_begin 121 = .ok (.iastore, 1) := sorry
theorem dX4_begin_122 : decode cX4_begin 122 = .ok (.iinc 2 1, 3) := sorry
theorem dX4_begin_125 : decode cX4_begin 125 = .ok (.goto (-26), 3) := sorry
theorem dX4_begin_128 : decode cX4_begin 128 = .ok (.return_, 1) := sorry
theorem dX4_take_0 : decode cX4_take 0 = .ok (.aload_n 1, 1) := sorry
theorem dX4_take_1 : decode cX4_take 1 = .ok (.getfield 9, 3) := sorry
theorem dX4_take_4 : decode cX4_take 4 = .ok (.iconst 0, 1) := sorry
theorem dX4_take_5 : decode cX4_take 5 = .ok (.aload_n 0, 1) := sorry
theorem dX4_take_6 : decode cX4_take 6 = .ok (.getfield 9, 3) := sorry
theorem dX4_take_9 : decode cX4_take 9 = .ok (.iconst 0, 1) := sorry
theorem dX4_take_10 : decode cX4_take 10 = .ok (.bipush 24, 2) := sorry
theorem dX4_take_12 : decode cX4_take 12 = .ok (.invokestatic 39, 3) := sorry
theorem dX4_take_15 : decode cX4_take 15 = .ok (.aload_n 0, 1) := sorry
theorem dX4_take_16 : decode cX4_take 16 = .ok (.aload_n 1, 1) := sorry
theorem dX4_take_17 : decode cX4_take 17 = .ok (.getfield 18, 3) := sorry
theorem dX4_take_20 : decode cX4_take 20 = .ok (.putfield 18, 3) := sorry
theorem dX4_take_23 : decode cX4_take 23 = .ok (.return_, 1) := sorry
theorem dX4_pledge_0 : decode cX4_pledge 0 = .ok (.aload_n 0, 1) := sorry
theorem dX4_pledge_1 : decode cX4_pledge 1 = .ok (.getfield 9, 3) := sorry
theorem dX4_pledge_4 : decode cX4_pledge 4 = .ok (.bipush 10, 2) := sorry
theorem dX4_pledge_6 : decode cX4_pledge 6 = .ok (.iload_n 1, 1) := sorry
theorem dX4_pledge_7 : decode cX4_pledge 7 = .ok (.iastore, 1) := sorry
theorem dX4_pledge_8 : decode cX4_pledge 8 = .ok (.aload_n 0, 1) := sorry
theorem dX4_pledge_9 : decode cX4_pledge 9 = .ok (.getfield 9, 3) := sorry
theorem dX4_pledge_12 : decode cX4_pledge 12 = .ok (.bipush 11, 2) := sorry
theorem dX4_pledge_14 : decode cX4_pledge 14 = .ok (.aload_n 0, 1) := sorry
theorem dX4_pledge_15 : decode cX4_pledge 15 = .ok (.getfield 18, 3) := sorry
theorem dX4_pledge_18 : decode cX4_pledge 18 = .ok (.iastore, 1) := sorry
theorem dX4_pledge_19 : decode cX4_pledge 19 = .ok (.return_, 1) := sorry
set_option maxRecDepth 20000 in
theorem ggX4_pass_J7_fill_53178 : GoodIn wsX4_pass wsJ7_fill_53178 := sorry
set_option maxRecDepth 20000 in
theorem gX4_pass_J7_fill_53178 : GoodIn wsX4_pass (va_wsS RX4 22 yJ7_fill_53178 wsJ7_fill_53178) := sorry
set_option maxRecDepth 20000 in
theorem ggX4_pass_X4_move : GoodIn wsX4_pass wsX4_move := sorry
set_option maxRecDepth 20000 in
theorem gX4_pass_X4_move : GoodIn wsX4_pass (wsV RX4 45 RX4 yX4_move wsX4_move) := sorry
set_option maxRecDepth 20000 in
theorem ggX4_pass_X4_isPaid : GoodIn wsX4_pass wsX4_isPaid := sorry
set_option maxRecDepth 20000 in
theorem gX4_pass_X4_isPaid : GoodIn wsX4_pass (wsV RX4 49 RX4 yX4_isPaid wsX4_isPaid) := sorry
set_option maxRecDepth 20000 in
theorem ggX4_pass_X4_shoot : GoodIn wsX4_pass wsX4_shoot := sorry
set_option maxRecDepth 20000 in
theorem gX4_pass_X4_shoot : GoodIn wsX4_pass (wsV RX4 53 RX4 yX4_shoot wsX4_shoot) := sorry
set_option maxRecDepth 20000 in
theorem ggX4_pass_X6_fearAt : GoodIn wsX4_pass wsX6_fearAt := sorry
set_option maxRecDepth 20000 in
theorem gX4_pass_X6_fearAt : GoodIn wsX4_pass (wsV RX4 60 RX6 yX6_fearAt wsX6_fearAt) := sorry
set_option maxRecDepth 20000 in
theorem ggX4_pass_X4_frighten : GoodIn wsX4_pass wsX4_frighten := sorry
set_option maxRecDepth 20000 in
theorem gX4_pass_X4_frighten : GoodIn wsX4_pass (wsV RX4 64 RX4 yX4_frighten wsX4_frighten) := sorry
set_option maxRecDepth 20000 in
theorem ggX4_pass_X4_mend : GoodIn wsX4_pass wsX4_mend := sorry
set_option maxRecDepth 20000 in
theorem gX4_pass_X4_mend : GoodIn wsX4_pass (wsV RX4 74 RX4 yX4_mend wsX4_mend) := sorry
set_option maxRecDepth 20000 in
theorem ggX4_pass_X4_desert : GoodIn wsX4_pass wsX4_desert := sorry
set_option maxRecDepth 20000 in
theorem gX4_pass_X4_desert : GoodIn wsX4_pass (wsV RX4 78 RX4 yX4_desert wsX4_desert) := sorry
theorem dX4_pass_0 : decode cX4_pass 0 = .ok (.aload_n 0, 1) := sorry
theorem dX4_pass_1 : decode cX4_pass 1 = .ok (.getfield 15, 3) := sorry
theorem dX4_pass_4 : decode cX4_pass 4 = .ok (.iconst 0, 1) := sorry
theorem dX4_pass_5 : decode cX4_pass 5 = .ok (.invokestatic 22, 3) := sorry
theorem dX4_pass_8 : decode cX4_pass 8 = .ok (.aload_n 0, 1) := sorry
theorem dX4_pass_9 : decode cX4_pass 9 = .ok (.iconst 2, 1) := sorry
theorem dX4_pass_10 : decode cX4_pass 10 = .ok (.iconst 0, 1) := sorry
theorem dX4_pass_11 : decode cX4_pass 11 = .ok (.aload_n 0, 1) := sorry
theorem dX4_pass_12 : decode cX4_pass 12 = .ok (.getfield 9, 3) := sorry
theorem dX4_pass_15 : decode cX4_pass 15 = .ok (.iconst 3, 1) := sorry
theorem dX4_pass_16 : decode cX4_pass 16 = .ok (.iaload, 1) := sorry
theorem dX4_pass_17 : decode cX4_pass 17 = .ok (.aload_n 1, 1) := sorry
theorem dX4_pass_18 : decode cX4_pass 18 = .ok (.getfield 28, 3) := sorry
theorem dX4_pass_21 : decode cX4_pass 21 = .ok (.bipush 10, 2) := sorry
theorem dX4_pass_23 : decode cX4_pass 23 = .ok (.iaload, 1) := sorry
theorem dX4_pass_24 : decode cX4_pass 24 = .ok (.imul, 1) := sorry
theorem dX4_pass_25 : decode cX4_pass 25 = .ok (.aload_n 0, 1) := sorry
theorem dX4_pass_26 : decode cX4_pass 26 = .ok (.getfield 9, 3) := sorry
theorem dX4_pass_29 : decode cX4_pass 29 = .ok (.iconst 5, 1) := sorry
theorem dX4_pass_30 : decode cX4_pass 30 = .ok (.iaload, 1) := sorry
theorem dX4_pass_31 : decode cX4_pass 31 = .ok (.imul, 1) := sorry
theorem dX4_pass_32 : decode cX4_pass 32 = .ok (.sipush 10000, 3) := sorry
theorem dX4_pass_35 : decode cX4_pass 35 = .ok (.idiv, 1) := sorry
theorem dX4_pass_36 : decode cX4_pass 36 = .ok (.invokevirtual 45, 3) := sorry
theorem dX4_pass_39 : decode cX4_pass 39 = .ok (.aload_n 2, 1) := sorry
theorem dX4_pass_40 : decode cX4_pass 40 = .ok (.ifnull 31, 3) := sorry
theorem dX4_pass_43 : decode cX4_pass 43 = .ok (.aload_n 0, 1) := sorry
theorem dX4_pass_44 : decode cX4_pass 44 = .ok (.aload_n 2, 1) := sorry
theorem dX4_pass_45 : decode cX4_pass 45 = .ok (.invokevirtual 49, 3) := sorry
theorem dX4_pass_48 : decode cX4_pass 48 = .ok (.ifCond .eq 23, 3) := sorry
theorem dX4_pass_51 : decode cX4_pass 51 = .ok (.aload_n 0, 1) := sorry
theorem dX4_pass_52 : decode cX4_pass 52 = .ok (.aload_n 1, 1) := sorry
theorem dX4_pass_53 : decode cX4_pass 53 = .ok (.aload_n 2, 1) := sorry
theorem dX4_pass_54 : decode cX4_pass 54 = .ok (.invokevirtual 53, 3) := sorry
theorem dX4_pass_57 : decode cX4_pass 57 = .ok (.aload_n 0, 1) := sorry
theorem dX4_pass_58 : decode cX4_pass 58 = .ok (.aload_n 1, 1) := sorry
theorem dX4_pass_59 : decode cX4_pass 59 = .ok (.aload_n 2, 1) := sorry
theorem dX4_pass_60 : decode cX4_pass 60 = .ok (.getfield 57, 3) := sorry
theorem dX4_pass_63 : decode cX4_pass 63 = .ok (.iconst 2, 1) := sorry
theorem dX4_pass_64 : decode cX4_pass 64 = .ok (.iaload, 1) := sorry
theorem dX4_pass_65 : decode cX4_pass 65 = .ok (.invokevirtual 60, 3) := sorry
theorem dX4_pass_68 : decode cX4_pass 68 = .ok (.invokevirtual 64, 3) := sorry
theorem dX4_pass_71 : decode cX4_pass 71 = .ok (.aload_n 0, 1) := sorry
theorem dX4_pass_72 : decode cX4_pass 72 = .ok (.getfield 9, 3) := sorry
theorem dX4_pass_75 : decode cX4_pass 75 = .ok (.iconst 5, 1) := sorry
theorem dX4_pass_76 : decode cX4_pass 76 = .ok (.iconst 0, 1) := sorry
theorem dX4_pass_77 : decode cX4_pass 77 = .ok (.aload_n 0, 1) := sorry
theorem dX4_pass_78 : decode cX4_pass 78 = .ok (.getfield 9, 3) := sorry
theorem dX4_pass_81 : decode cX4_pass 81 = .ok (.iconst 5, 1) := sorry
theorem dX4_pass_82 : decode cX4_pass 82 = .ok (.iaload, 1) := sorry
theorem dX4_pass_83 : decode cX4_pass 83 = .ok (.aload_n 1, 1) := sorry
theorem dX4_pass_84 : decode cX4_pass 84 = .ok (.getfield 28, 3) := sorry
theorem dX4_pass_87 : decode cX4_pass 87 = .ok (.bipush 14, 2) := sorry
theorem dX4_pass_89 : decode cX4_pass 89 = .ok (.iaload, 1) := sorry
theorem dX4_pass_90 : decode cX4_pass 90 = .ok (.isub, 1) := sorry
theorem dX4_pass_91 : decode cX4_pass 91 = .ok (.invokestatic 68, 3) := sorry
theorem dX4_pass_94 : decode cX4_pass 94 = .ok (.iastore, 1) := sorry
theorem dX4_pass_95 : decode cX4_pass 95 = .ok (.aload_n 0, 1) := sorry
theorem dX4_pass_96 : decode cX4_pass 96 = .ok (.aload_n 1, 1) := sorry
theorem dX4_pass_97 : decode cX4_pass 97 = .ok (.invokevirtual 74, 3) := sorry
theorem dX4_pass_100 : decode cX4_pass 100 = .ok (.aload_n 0, 1) := sorry
theorem dX4_pass_101 : decode cX4_pass 101 = .ok (.iconst 0, 1) := sorry
theorem dX4_pass_102 : decode cX4_pass 102 = .ok (.iconst 2, 1) := sorry
theorem dX4_pass_103 : decode cX4_pass 103 = .ok (.aload_n 1, 1) := sorry
theorem dX4_pass_104 : decode cX4_pass 104 = .ok (.getfield 28, 3) := sorry
theorem dX4_pass_107 : decode cX4_pass 107 = .ok (.iconst 5, 1) := sorry
theorem dX4_pass_108 : decode cX4_pass 108 = .ok (.iaload, 1) := sorry
theorem dX4_pass_109 : decode cX4_pass 109 = .ok (.aload_n 0, 1) := sorry
theorem dX4_pass_110 : decode cX4_pass 110 = .ok (.getfield 9, 3) := sorry
theorem dX4_pass_113 : decode cX4_pass 113 = .ok (.iconst 3, 1) := sorry
theorem dX4_pass_114 : decode cX4_pass 114 = .ok (.iaload, 1) := sorry
theorem dX4_pass_115 : decode cX4_pass 115 = .ok (.bipush 10, 2) := sorry
theorem dX4_pass_117 : decode cX4_pass 117 = .ok (.idiv, 1) := sorry
theorem dX4_pass_118 : decode cX4_pass 118 = .ok (.imul, 1) := sorry
theorem dX4_pass_119 : decode cX4_pass 119 = .ok (.invokevirtual 45, 3) := sorry
theorem dX4_pass_122 : decode cX4_pass 122 = .ok (.aload_n 0, 1) := sorry
theorem dX4_pass_123 : decode cX4_pass 123 = .ok (.iconst 1, 1) := sorry
theorem dX4_pass_124 : decode cX4_pass 124 = .ok (.iconst 2, 1) := sorry
theorem dX4_pass_125 : decode cX4_pass 125 = .ok (.aload_n 1, 1) := sorry
theorem dX4_pass_126 : decode cX4_pass 126 = .ok (.getfield 28, 3) := sorry
theorem dX4_pass_129 : decode cX4_pass 129 = .ok (.bipush 8, 2) := sorry
theorem dX4_pass_131 : decode cX4_pass 131 = .ok (.iaload, 1) := sorry
theorem dX4_pass_132 : decode cX4_pass 132 = .ok (.aload_n 0, 1) := sorry
theorem dX4_pass_133 : decode cX4_pass 133 = .ok (.getfield 9, 3) := sorry
theorem dX4_pass_136 : decode cX4_pass 136 = .ok (.iconst 4, 1) := sorry
theorem dX4_pass_137 : decode cX4_pass 137 = .ok (.iaload, 1) := sorry
theorem dX4_pass_138 : decode cX4_pass 138 = .ok (.bipush 10, 2) := sorry
theorem dX4_pass_140 : decode cX4_pass 140 = .ok (.idiv, 1) := sorry
theorem dX4_pass_141 : decode cX4_pass 141 = .ok (.imul, 1) := sorry
theorem dX4_pass_142 : decode cX4_pass 142 = .ok (.invokevirtual 45, 3) := sorry
theorem dX4_pass_145 : decode cX4_pass 145 = .ok (.aload_n 0, 1) := sorry
theorem dX4_pass_146 : decode cX4_pass 146 = .ok (.aload_n 1, 1) := sorry
theorem dX4_pass_147 : decode cX4_pass 147 = .ok (.getfield 28, 3) := sorry
theorem dX4_pass_150 : decode cX4_pass 150 = .ok (.bipush 8, 2) := sorry
theorem dX4_pass_152 : decode cX4_pass 152 = .ok (.iaload, 1) := sorry
theorem dX4_pass_153 : decode cX4_pass 153 = .ok (.aload_n 1, 1) := sorry
theorem dX4_pass_154 : decode cX4_pass 154 = .ok (.getfield 28, 3) := sorry
theorem dX4_pass_157 : decode cX4_pass 157 = .ok (.iconst 5, 1) := sorry
theorem dX4_pass_158 : decode cX4_pass 158 = .ok (.iaload, 1) := sorry
theorem dX4_pass_159 : decode cX4_pass 159 = .ok (.isub, 1) := sorry
theorem dX4_pass_160 : decode cX4_pass 160 = .ok (.invokevirtual 78, 3) := sorry
theorem dX4_pass_163 : decode cX4_pass 163 = .ok (.aload_n 0, 1) := sorry
theorem dX4_pass_164 : decode cX4_pass 164 = .ok (.dup, 1) := sorry
theorem dX4_pass_165 : decode cX4_pass 165 = .ok (.getfield 18, 3) := sorry
theorem dX4_pass_168 : decode cX4_pass 168 = .ok (.iconst 1, 1) := sorry
theorem dX4_pass_169 : decode cX4_pass 169 = .ok (.iadd, 1) := sorry
theorem dX4_pass_170 : decode cX4_pass 170 = .ok (.putfield 18, 3) := sorry
theorem dX4_pass_173 : decode cX4_pass 173 = .ok (.aload_n 2, 1) := sorry
theorem dX4_pass_174 : decode cX4_pass 174 = .ok (.ifnull 32, 3) := sorry
theorem dX4_pass_177 : decode cX4_pass 177 = .ok (.aload_n 0, 1) := sorry
theorem dX4_pass_178 : decode cX4_pass 178 = .ok (.getfield 18, 3) := sorry
theorem dX4_pass_181 : decode cX4_pass 181 = .ok (.aload_n 0, 1) := sorry
theorem dX4_pass_182 : decode cX4_pass 182 = .ok (.getfield 9, 3) := sorry
theorem dX4_pass_185 : decode cX4_pass 185 = .ok (.bipush 11, 2) := sorry
theorem dX4_pass_187 : decode cX4_pass 187 = .ok (.iaload, 1) := sorry
theorem dX4_pass_188 : decode cX4_pass 188 = .ok (.isub, 1) := sorry
theorem dX4_pass_189 : decode cX4_pass 189 = .ok (.aload_n 2, 1) := sorry
theorem dX4_pass_190 : decode cX4_pass 190 = .ok (.getfield 57, 3) := sorry
theorem dX4_pass_193 : decode cX4_pass 193 = .ok (.iconst 5, 1) := sorry
theorem dX4_pass_194 : decode cX4_pass 194 = .ok (.iaload, 1) := sorry
theorem dX4_pass_195 : decode cX4_pass 195 = .ok (.if_icmp .lt 11, 3) := sorry
theorem dX4_pass_198 : decode cX4_pass 198 = .ok (.aload_n 0, 1) := sorry
theorem dX4_pass_199 : decode cX4_pass 199 = .ok (.getfield 9, 3) := sorry
theorem dX4_pass_202 : decode cX4_pass 202 = .ok (.bipush 10, 2) := sorry
theorem dX4_pass_204 : decode cX4_pass 204 = .ok (.iconst (-1), 1) := sorry
theorem dX4_pass_205 : decode cX4_pass 205 = .ok (.iastore, 1) := sorry
theorem dX4_pass_206 : decode cX4_pass 206 = .ok (.return_, 1) := sorry
theorem dX4_move_0 : decode cX4_move 0 = .ok (.iload_n 3, 1) := sorry
theorem dX4_move_1 : decode cX4_move 1 = .ok (.aload_n 0, 1) := sorry
theorem dX4_move_2 : decode cX4_move 2 = .ok (.getfield 9, 3) := sorry
theorem dX4_move_5 : decode cX4_move 5 = .ok (.iload_n 1, 1) := sorry
theorem dX4_move_6 : decode cX4_move 6 = .ok (.iaload, 1) := sorry
theorem dX4_move_7 : decode cX4_move 7 = .ok (.invokestatic 81, 3) := sorry
theorem dX4_move_10 : decode cX4_move 10 = .ok (.istore 4, 2) := sorry
theorem dX4_move_12 : decode cX4_move 12 = .ok (.aload_n 0, 1) := sorry
theorem dX4_move_13 : decode cX4_move 13 = .ok (.getfield 9, 3) := sorry
theorem dX4_move_16 : decode cX4_move 16 = .ok (.iload_n 1, 1) := sorry
theorem dX4_move_17 : decode cX4_move 17 = .ok (.dup2, 1) := sorry
theorem dX4_move_18 : decode cX4_move 18 = .ok (.iaload, 1) := sorry
theorem dX4_move_19 : decode cX4_move 19 = .ok (.iload 4, 2) := sorry
theorem dX4_move_21 : decode cX4_move 21 = .ok (.isub, 1) := sorry
theorem dX4_move_22 : decode cX4_move 22 = .ok (.iastore, 1) := sorry
theorem dX4_move_23 : decode cX4_move 23 = .ok (.aload_n 0, 1) := sorry
theorem dX4_move_24 : decode cX4_move 24 = .ok (.getfield 9, 3) := sorry
theorem dX4_move_27 : decode cX4_move 27 = .ok (.iload_n 2, 1) := sorry
theorem dX4_move_28 : decode cX4_move 28 = .ok (.dup2, 1) := sorry
theorem dX4_move_29 : decode cX4_move 29 = .ok (.iaload, 1) := sorry
theorem dX4_move_30 : decode cX4_move 30 = .ok (.iload 4, 2) := sorry
theorem dX4_move_32 : decode cX4_move 32 = .ok (.iadd, 1) := sorry
theorem dX4_move_33 : decode cX4_move 33 = .ok (.iastore, 1) := sorry
theorem dX4_move_34 : decode cX4_move 34 = .ok (.return_, 1) := sorry
set_option maxRecDepth 20000 in
theorem ggX4_isPaid_X5_payIn : GoodIn wsX4_isPaid wsX5_payIn := sorry
set_option maxRecDepth 20000 in
theorem gX4_isPaid_X5_payIn : GoodIn wsX4_isPaid (wsV RX4 84 RX5 yX5_payIn wsX5_payIn) := sorry
set_option maxRecDepth 20000 in
theorem ggX4_isPaid_X4_move : GoodIn wsX4_isPaid wsX4_move := sorry
set_option maxRecDepth 20000 in
theorem gX4_isPaid_X4_move : GoodIn wsX4_isPaid (wsV RX4 45 RX4 yX4_move wsX4_move) := sorry
theorem dX4_isPaid_0 : decode cX4_isPaid 0 = .ok (.aload_n 1, 1) := sorry
theorem dX4_isPaid_1 : decode cX4_isPaid 1 = .ok (.aload_n 0, 1) := sorry
theorem dX4_isPaid_2 : decode cX4_isPaid 2 = .ok (.getfield 18, 3) := sorry
theorem dX4_isPaid_5 : decode cX4_isPaid 5 = .ok (.invokevirtual 84, 3) := sorry
theorem dX4_isPaid_8 : decode cX4_isPaid 8 = .ok (.istore_n 2, 1) := sorry
theorem dX4_isPaid_9 : decode cX4_isPaid 9 = .ok (.aload_n 0, 1) := sorry
theorem dX4_isPaid_10 : decode cX4_isPaid 10 = .ok (.getfield 9, 3) := sorry
theorem dX4_isPaid_13 : decode cX4_isPaid 13 = .ok (.iconst 0, 1) := sorry
theorem dX4_isPaid_14 : decode cX4_isPaid 14 = .ok (.iaload, 1) := sorry
theorem dX4_isPaid_15 : decode cX4_isPaid 15 = .ok (.iload_n 2, 1) := sorry
theorem dX4_isPaid_16 : decode cX4_isPaid 16 = .ok (.if_icmp .ge 24, 3) := sorry
theorem dX4_isPaid_19 : decode cX4_isPaid 19 = .ok (.aload_n 0, 1) := sorry
theorem dX4_isPaid_20 : decode cX4_isPaid 20 = .ok (.getfield 9, 3) := sorry
theorem dX4_isPaid_23 : decode cX4_isPaid 23 = .ok (.bipush 8, 2) := sorry
theorem dX4_isPaid_25 : decode cX4_isPaid 25 = .ok (.dup2, 1) := sorry
theorem dX4_isPaid_26 : decode cX4_isPaid 26 = .ok (.iaload, 1) := sorry
theorem dX4_isPaid_27 : decode cX4_isPaid 27 = .ok (.iconst 1, 1) := sorry
theorem dX4_isPaid_28 : decode cX4_isPaid 28 = .ok (.iadd, 1) := sorry
theorem dX4_isPaid_29 : decode cX4_isPaid 29 = .ok (.iastore, 1) := sorry
theorem dX4_isPaid_30 : decode cX4_isPaid 30 = .ok (.aload_n 0, 1) := sorry
theorem dX4_isPaid_31 : decode cX4_isPaid 31 = .ok (.getfield 9, 3) := sorry
theorem dX4_isPaid_34 : decode cX4_isPaid 34 = .ok (.bipush 10, 2) := sorry
theorem dX4_isPaid_36 : decode cX4_isPaid 36 = .ok (.iconst (-1), 1) := sorry
theorem dX4_isPaid_37 : decode cX4_isPaid 37 = .ok (.iastore, 1) := sorry
theorem dX4_isPaid_38 : decode cX4_isPaid 38 = .ok (.iconst 0, 1) := sorry
theorem dX4_isPaid_39 : decode cX4_isPaid 39 = .ok (.ireturn, 1) := sorry
theorem dX4_isPaid_40 : decode cX4_isPaid 40 = .ok (.aload_n 0, 1) := sorry
theorem dX4_isPaid_41 : decode cX4_isPaid 41 = .ok (.iconst 0, 1) := sorry
theorem dX4_isPaid_42 : decode cX4_isPaid 42 = .ok (.iconst 1, 1) := sorry
theorem dX4_isPaid_43 : decode cX4_isPaid 43 = .ok (.iload_n 2, 1) := sorry
theorem dX4_isPaid_44 : decode cX4_isPaid 44 = .ok (.invokevirtual 45, 3) := sorry
theorem dX4_isPaid_47 : decode cX4_isPaid 47 = .ok (.iconst 1, 1) := sorry
theorem dX4_isPaid_48 : decode cX4_isPaid 48 = .ok (.ireturn, 1) := sorry
set_option maxRecDepth 20000 in
theorem ggX4_shoot_X5_wallDue : GoodIn wsX4_shoot wsX5_wallDue := sorry
set_option maxRecDepth 20000 in
theorem gX4_shoot_X5_wallDue : GoodIn wsX4_shoot (wsV RX4 87 RX5 yX5_wallDue wsX5_wallDue) := sorry
set_option maxRecDepth 20000 in
theorem ggX4_shoot_X4_weakest : GoodIn wsX4_shoot wsX4_weakest := sorry
set_option maxRecDepth 20000 in
theorem gX4_shoot_X4_weakest : GoodIn wsX4_shoot (wsV RX4 90 RX4 yX4_weakest wsX4_weakest) := sorry
set_option maxRecDepth 20000 in
theorem ggX4_shoot_X4_breach : GoodIn wsX4_shoot wsX4_breach := sorry
set_option maxRecDepth 20000 in
theorem gX4_shoot_X4_breach : GoodIn wsX4_shoot (wsV RX4 93 RX4 yX4_breach wsX4_breach) := sorry
theorem dX4_shoot_0 : decode cX4_shoot 0 = .ok (.aload_n 2, 1) := sorry
theorem dX4_shoot_1 : decode cX4_shoot 1 = .ok (.aload_n 0, 1) := sorry
theorem dX4_shoot_2 : decode cX4_shoot 2 = .ok (.getfield 18, 3) := sorry
theorem dX4_shoot_5 : decode cX4_shoot 5 = .ok (.aload_n 0, 1) := sorry
theorem dX4_shoot_6 : decode cX4_shoot 6 = .ok (.getfield 9, 3) := sorry
theorem dX4_shoot_9 : decode cX4_shoot 9 = .ok (.bipush 11, 2) := sorry
theorem dX4_shoot_11 : decode cX4_shoot 11 = .ok (.iaload, 1) := sorry
theorem dX4_shoot_12 : decode cX4_shoot 12 = .ok (.isub, 1) := sorry
theorem dX4_shoot_13 : decode cX4_shoot 13 = .ok (.aload_n 1, 1) := sorry
theorem dX4_shoot_14 : decode cX4_shoot 14 = .ok (.getfield 33, 3) := sorry
theorem dX4_shoot_17 : decode cX4_shoot 17 = .ok (.invokevirtual 87, 3) := sorry
theorem dX4_shoot_20 : decode cX4_shoot 20 = .ok (.istore_n 3, 1) := sorry
theorem dX4_shoot_21 : decode cX4_shoot 21 = .ok (.iload_n 3, 1) := sorry
theorem dX4_shoot_22 : decode cX4_shoot 22 = .ok (.iconst (-1), 1) := sorry
theorem dX4_shoot_23 : decode cX4_shoot 23 = .ok (.if_icmp .ne 7, 3) := sorry
theorem dX4_shoot_26 : decode cX4_shoot 26 = .ok (.iconst 0, 1) := sorry
theorem dX4_shoot_27 : decode cX4_shoot 27 = .ok (.goto 12, 3) := sorry
theorem dX4_shoot_30 : decode cX4_shoot 30 = .ok (.aload_n 0, 1) := sorry
theorem dX4_shoot_31 : decode cX4_shoot 31 = .ok (.getfield 9, 3) := sorry
theorem dX4_shoot_34 : decode cX4_shoot 34 = .ok (.bipush 18, 2) := sorry
theorem dX4_shoot_36 : decode cX4_shoot 36 = .ok (.iload_n 3, 1) := sorry
theorem dX4_shoot_37 : decode cX4_shoot 37 = .ok (.iadd, 1) := sorry
theorem dX4_shoot_38 : decode cX4_shoot 38 = .ok (.iaload, 1) := sorry
theorem dX4_shoot_39 : decode cX4_shoot 39 = .ok (.istore 4, 2) := sorry
theorem dX4_shoot_41 : decode cX4_shoot 41 = .ok (.aload_n 1, 1) := sorry
theorem dX4_shoot_42 : decode cX4_shoot 42 = .ok (.getfield 33, 3) := sorry
theorem dX4_shoot_45 : decode cX4_shoot 45 = .ok (.ifCond .le 12, 3) := sorry
theorem dX4_shoot_48 : decode cX4_shoot 48 = .ok (.aload_n 2, 1) := sorry
theorem dX4_shoot_49 : decode cX4_shoot 49 = .ok (.getfield 57, 3) := sorry
theorem dX4_shoot_52 : decode cX4_shoot 52 = .ok (.iconst 3, 1) := sorry
theorem dX4_shoot_53 : decode cX4_shoot 53 = .ok (.iaload, 1) := sorry
theorem dX4_shoot_54 : decode cX4_shoot 54 = .ok (.goto 4, 3) := sorry
theorem dX4_shoot_57 : decode cX4_shoot 57 = .ok (.iconst 0, 1) := sorry
theorem dX4_shoot_58 : decode cX4_shoot 58 = .ok (.istore 5, 2) := sorry
theorem dX4_shoot_60 : decode cX4_shoot 60 = .ok (.aload_n 2, 1) := sorry
theorem dX4_shoot_61 : decode cX4_shoot 61 = .ok (.getfield 57, 3) := sorry
theorem dX4_shoot_64 : decode cX4_shoot 64 = .ok (.iconst 2, 1) := sorry
theorem dX4_shoot_65 : decode cX4_shoot 65 = .ok (.iaload, 1) := sorry
theorem dX4_shoot_66 : decode cX4_shoot 66 = .ok (.iconst 4, 1) := sorry
theorem dX4_shoot_67 : decode cX4_shoot 67 = .ok (.if_icmp .gt 7, 3) := sorry
theorem dX4_shoot_70 : decode cX4_shoot 70 = .ok (.iconst 1, 1) := sorry
theorem dX4_shoot_71 : decode cX4_shoot 71 = .ok (.goto 4, 3) := sorry
theorem dX4_shoot_74 : decode cX4_shoot 74 = .ok (.iconst 0, 1) := sorry
theorem dX4_shoot_75 : decode cX4_shoot 75 = .ok (.istore 6, 2) := sorry
theorem dX4_shoot_77 : decode cX4_shoot 77 = .ok (.iconst (-1), 1) := sorry
theorem dX4_shoot_78 : decode cX4_shoot 78 = .ok (.istore 7, 2) := sorry
theorem dX4_shoot_80 : decode cX4_shoot 80 = .ok (.iconst 1, 1) := sorry
theorem dX4_shoot_81 : decode cX4_shoot 81 = .ok (.istore 8, 2) := sorry
theorem dX4_shoot_83 : decode cX4_shoot 83 = .ok (.iload 8, 2) := sorry
theorem dX4_shoot_85 : decode cX4_shoot 85 = .ok (.iload 5, 2) := sorry
theorem dX4_shoot_87 : decode cX4_shoot 87 = .ok (.if_icmp .gt 110, 3) := sorry
theorem dX4_shoot_90 : decode cX4_shoot 90 = .ok (.iload 7, 2) := sorry
theorem dX4_shoot_92 : decode cX4_shoot 92 = .ok (.iconst (-1), 1) := sorry
theorem dX4_shoot_93 : decode cX4_shoot 93 = .ok (.if_icmp .ne 22, 3) := sorry
theorem dX4_shoot_96 : decode cX4_shoot 96 = .ok (.iload_n 3, 1) := sorry
theorem dX4_shoot_97 : decode cX4_shoot 97 = .ok (.iconst (-1), 1) := sorry
theorem dX4_shoot_98 : decode cX4_shoot 98 = .ok (.if_icmp .ne 14, 3) := sorry
theorem dX4_shoot_101 : decode cX4_shoot 101 = .ok (.aload_n 0, 1) := sorry
theorem dX4_shoot_102 : decode cX4_shoot 102 = .ok (.aload_n 1, 1) := sorry
theorem dX4_shoot_103 : decode cX4_shoot 103 = .ok (.getfield 33, 3) := sorry
theorem dX4_shoot_106 : decode cX4_shoot 106 = .ok (.invokevirtual 90, 3) := sorry
theorem dX4_shoot_109 : decode cX4_shoot 109 = .ok (.goto 4, 3) := sorry
theorem dX4_shoot_112 : decode cX4_shoot 112 = .ok (.iload_n 3, 1) := sorry
theorem dX4_shoot_113 : decode cX4_shoot 113 = .ok (.istore 7, 2) := sorry
theorem dX4_shoot_115 : decode cX4_shoot 115 = .ok (.aload_n 0, 1) := sorry
theorem dX4_shoot_116 : decode cX4_shoot 116 = .ok (.getfield 15, 3) := sorry
theorem dX4_shoot_119 : decode cX4_shoot 119 = .ok (.iload 7, 2) := sorry
theorem dX4_shoot_121 : decode cX4_shoot 121 = .ok (.dup2, 1) := sorry
theorem dX4_shoot_122 : decode cX4_shoot 122 = .ok (.iaload, 1) := sorry
theorem dX4_shoot_123 : decode cX4_shoot 123 = .ok (.iconst 1, 1) := sorry
theorem dX4_shoot_124 : decode cX4_shoot 124 = .ok (.iadd, 1) := sorry
theorem dX4_shoot_125 : decode cX4_shoot 125 = .ok (.iastore, 1) := sorry
theorem dX4_shoot_126 : decode cX4_shoot 126 = .ok (.aload_n 0, 1) := sorry
theorem dX4_shoot_127 : decode cX4_shoot 127 = .ok (.getfield 9, 3) := sorry
theorem dX4_shoot_130 : decode cX4_shoot 130 = .ok (.bipush 9, 2) := sorry
theorem dX4_shoot_132 : decode cX4_shoot 132 = .ok (.dup2, 1) := sorry
theorem dX4_shoot_133 : decode cX4_shoot 133 = .ok (.iaload, 1) := sorry
theorem dX4_shoot_134 : decode cX4_shoot 134 = .ok (.iconst 1, 1) := sorry
theorem dX4_shoot_135 : decode cX4_shoot 135 = .ok (.iadd, 1) := sorry
theorem dX4_shoot_136 : decode cX4_shoot 136 = .ok (.iastore, 1) := sorry
theorem dX4_shoot_137 : decode cX4_shoot 137 = .ok (.aload_n 0, 1) := sorry
theorem dX4_shoot_138 : decode cX4_shoot 138 = .ok (.getfield 9, 3) := sorry
theorem dX4_shoot_141 : decode cX4_shoot 141 = .ok (.bipush 12, 2) := sorry
theorem dX4_shoot_143 : decode cX4_shoot 143 = .ok (.iload 7, 2) := sorry
theorem dX4_shoot_145 : decode cX4_shoot 145 = .ok (.iadd, 1) := sorry
theorem dX4_shoot_146 : decode cX4_shoot 146 = .ok (.dup2, 1) := sorry
theorem dX4_shoot_147 : decode cX4_shoot 147 = .ok (.iaload, 1) := sorry
theorem dX4_shoot_148 : decode cX4_shoot 148 = .ok (.iload 6, 2) := sorry
theorem dX4_shoot_150 : decode cX4_shoot 150 = .ok (.ifCond .eq 14, 3) := sorry
theorem dX4_shoot_153 : decode cX4_shoot 153 = .ok (.iload 8, 2) := sorry
theorem dX4_shoot_155 : decode cX4_shoot 155 = .ok (.iconst 2, 1) := sorry
theorem dX4_shoot_156 : decode cX4_shoot 156 = .ok (.irem, 1) := sorry
theorem dX4_shoot_157 : decode cX4_shoot 157 = .ok (.ifCond .ne 7, 3) := sorry
theorem dX4_shoot_160 : decode cX4_shoot 160 = .ok (.iconst 2, 1) := sorry
theorem dX4_shoot_161 : decode cX4_shoot 161 = .ok (.goto 4, 3) := sorry
theorem dX4_shoot_164 : decode cX4_shoot 164 = .ok (.iconst 1, 1) := sorry
theorem dX4_shoot_165 : decode cX4_shoot 165 = .ok (.isub, 1) := sorry
theorem dX4_shoot_166 : decode cX4_shoot 166 = .ok (.iastore, 1) := sorry
theorem dX4_shoot_167 : decode cX4_shoot 167 = .ok (.aload_n 0, 1) := sorry
theorem dX4_shoot_168 : decode cX4_shoot 168 = .ok (.getfield 9, 3) := sorry
theorem dX4_shoot_171 : decode cX4_shoot 171 = .ok (.bipush 12, 2) := sorry
theorem dX4_shoot_173 : decode cX4_shoot 173 = .ok (.iload 7, 2) := sorry
theorem dX4_shoot_175 : decode cX4_shoot 175 = .ok (.iadd, 1) := sorry
theorem dX4_shoot_176 : decode cX4_shoot 176 = .ok (.iaload, 1) := sorry
theorem dX4_shoot_177 : decode cX4_shoot 177 = .ok (.ifCond .gt 14, 3) := sorry
theorem dX4_shoot_180 : decode cX4_shoot 180 = .ok (.aload_n 0, 1) := sorry
theorem dX4_shoot_181 : decode cX4_shoot 181 = .ok (.aload_n 1, 1) := sorry
theorem dX4_shoot_182 : decode cX4_shoot 182 = .ok (.aload_n 2, 1) := sorry
theorem dX4_shoot_183 : decode cX4_shoot 183 = .ok (.iload 7, 2) := sorry
theorem dX4_shoot_185 : decode cX4_shoot 185 = .ok (.invokevirtual 93, 3) := sorry
theorem dX4_shoot_188 : decode cX4_shoot 188 = .ok (.iconst (-1), 1) := sorry
theorem dX4_shoot_189 : decode cX4_shoot 189 = .ok (.istore 7, 2) := sorry
theorem dX4_shoot_191 : decode cX4_shoot 191 = .ok (.iinc 8 1, 3) := sorry
theorem dX4_shoot_194 : decode cX4_shoot 194 = .ok (.goto (-111), 3) := sorry
theorem dX4_shoot_197 : decode cX4_shoot 197 = .ok (.iload_n 3, 1) := sorry
theorem dX4_shoot_198 : decode cX4_shoot 198 = .ok (.iconst (-1), 1) := sorry
theorem dX4_shoot_199 : decode cX4_shoot 199 = .ok (.if_icmp .eq 28, 3) := sorry
theorem dX4_shoot_202 : decode cX4_shoot 202 = .ok (.aload_n 0, 1) := sorry
theorem dX4_shoot_203 : decode cX4_shoot 203 = .ok (.getfield 9, 3) := sorry
theorem dX4_shoot_206 : decode cX4_shoot 206 = .ok (.bipush 18, 2) := sorry
theorem dX4_shoot_208 : decode cX4_shoot 208 = .ok (.iload_n 3, 1) := sorry
theorem dX4_shoot_209 : decode cX4_shoot 209 = .ok (.iadd, 1) := sorry
theorem dX4_shoot_210 : decode cX4_shoot 210 = .ok (.iaload, 1) := sorry
theorem dX4_shoot_211 : decode cX4_shoot 211 = .ok (.iload 4, 2) := sorry
theorem dX4_shoot_213 : decode cX4_shoot 213 = .ok (.if_icmp .ne 14, 3) := sorry
theorem dX4_shoot_216 : decode cX4_shoot 216 = .ok (.aload_n 0, 1) := sorry
theorem dX4_shoot_217 : decode cX4_shoot 217 = .ok (.getfield 9, 3) := sorry
theorem dX4_shoot_220 : decode cX4_shoot 220 = .ok (.bipush 7, 2) := sorry
theorem dX4_shoot_222 : decode cX4_shoot 222 = .ok (.dup2, 1) := sorry
theorem dX4_shoot_223 : decode cX4_shoot 223 = .ok (.iaload, 1) := sorry
theorem dX4_shoot_224 : decode cX4_shoot 224 = .ok (.iconst 1, 1) := sorry
theorem dX4_shoot_225 : decode cX4_shoot 225 = .ok (.iadd, 1) := sorry
theorem dX4_shoot_226 : decode cX4_shoot 226 = .ok (.iastore, 1) := sorry
theorem dX4_shoot_227 : decode cX4_shoot 227 = .ok (.return_, 1) := sorry
theorem dX4_weakest_0 : decode cX4_weakest 0 = .ok (.iconst 0, 1) := sorry
theorem dX4_weakest_1 : decode cX4_weakest 1 = .ok (.istore_n 2, 1) := sorry
theorem dX4_weakest_2 : decode cX4_weakest 2 = .ok (.iconst 1, 1) := sorry
theorem dX4_weakest_3 : decode cX4_weakest 3 = .ok (.istore_n 3, 1) := sorry
theorem dX4_weakest_4 : decode cX4_weakest 4 = .ok (.iload_n 3, 1) := sorry
theorem dX4_weakest_5 : decode cX4_weakest 5 = .ok (.iload_n 1, 1) := sorry
theorem dX4_weakest_6 : decode cX4_weakest 6 = .ok (.if_icmp .ge 32, 3) := sorry
theorem dX4_weakest_9 : decode cX4_weakest 9 = .ok (.aload_n 0, 1) := sorry
theorem dX4_weakest_10 : decode cX4_weakest 10 = .ok (.getfield 9, 3) := sorry
theorem dX4_weakest_13 : decode cX4_weakest 13 = .ok (.bipush 12, 2) := sorry
theorem dX4_weakest_15 : decode cX4_weakest 15 = .ok (.iload_n 3, 1) := sorry
theorem dX4_weakest_16 : decode cX4_weakest 16 = .ok (.iadd, 1) := sorry
theorem dX4_weakest_17 : decode cX4_weakest 17 = .ok (.iaload, 1) := sorry
theorem dX4_weakest_18 : decode cX4_weakest 18 = .ok (.aload_n 0, 1) := sorry
theorem dX4_weakest_19 : decode cX4_weakest 19 = .ok (.getfield 9, 3) := sorry
theorem dX4_weakest_22 : decode cX4_weakest 22 = .ok (.bipush 12, 2) := sorry
theorem dX4_weakest_24 : decode cX4_weakest 24 = .ok (.iload_n 2, 1) := sorry
theorem dX4_weakest_25 : decode cX4_weakest 25 = .ok (.iadd, 1) := sorry
theorem dX4_weakest_26 : decode cX4_weakest 26 = .ok (.iaload, 1) := sorry
theorem dX4_weakest_27 : decode cX4_weakest 27 = .ok (.if_icmp .ge 5, 3) := sorry
theorem dX4_weakest_30 : decode cX4_weakest 30 = .ok (.iload_n 3, 1) := sorry
theorem dX4_weakest_31 : decode cX4_weakest 31 = .ok (.istore_n 2, 1) := sorry
theorem dX4_weakest_32 : decode cX4_weakest 32 = .ok (.iinc 3 1, 3) := sorry
theorem dX4_weakest_35 : decode cX4_weakest 35 = .ok (.goto (-31), 3) := sorry
theorem dX4_weakest_38 : decode cX4_weakest 38 = .ok (.iload_n 2, 1) := sorry
theorem dX4_weakest_39 : decode cX4_weakest 39 = .ok (.ireturn, 1) := sorry
set_option maxRecDepth 20000 in
theorem ggX4_breach_X4_frighten : GoodIn wsX4_breach wsX4_frighten := sorry
set_option maxRecDepth 20000 in
theorem gX4_breach_X4_frighten : GoodIn wsX4_breach (wsV RX4 64 RX4 yX4_frighten wsX4_frighten) := sorry
set_option maxRecDepth 20000 in
theorem ggX4_breach_X4_move : GoodIn wsX4_breach wsX4_move := sorry
set_option maxRecDepth 20000 in
theorem gX4_breach_X4_move : GoodIn wsX4_breach (wsV RX4 45 RX4 yX4_move wsX4_move) := sorry
theorem dX4_breach_0 : decode cX4_breach 0 = .ok (.aload_n 0, 1) := sorry
theorem dX4_breach_1 : decode cX4_breach 1 = .ok (.getfield 9, 3) := sorry
theorem dX4_breach_4 : decode cX4_breach 4 = .ok (.bipush 6, 2) := sorry
theorem dX4_breach_6 : decode cX4_breach 6 = .ok (.dup2, 1) := sorry
theorem dX4_breach_7 : decode cX4_breach 7 = .ok (.iaload, 1) := sorry
theorem dX4_breach_8 : decode cX4_breach 8 = .ok (.iconst 1, 1) := sorry
theorem dX4_breach_9 : decode cX4_breach 9 = .ok (.iadd, 1) := sorry
theorem dX4_breach_10 : decode cX4_breach 10 = .ok (.iastore, 1) := sorry
theorem dX4_breach_11 : decode cX4_breach 11 = .ok (.aload_n 0, 1) := sorry
theorem dX4_breach_12 : decode cX4_breach 12 = .ok (.getfield 9, 3) := sorry
theorem dX4_breach_15 : decode cX4_breach 15 = .ok (.bipush 18, 2) := sorry
theorem dX4_breach_17 : decode cX4_breach 17 = .ok (.iload_n 3, 1) := sorry
theorem dX4_breach_18 : decode cX4_breach 18 = .ok (.iadd, 1) := sorry
theorem dX4_breach_19 : decode cX4_breach 19 = .ok (.dup2, 1) := sorry
theorem dX4_breach_20 : decode cX4_breach 20 = .ok (.iaload, 1) := sorry
theorem dX4_breach_21 : decode cX4_breach 21 = .ok (.iconst 1, 1) := sorry
theorem dX4_breach_22 : decode cX4_breach 22 = .ok (.iadd, 1) := sorry
theorem dX4_breach_23 : decode cX4_breach 23 = .ok (.iastore, 1) := sorry
theorem dX4_breach_24 : decode cX4_breach 24 = .ok (.aload_n 0, 1) := sorry
theorem dX4_breach_25 : decode cX4_breach 25 = .ok (.getfield 9, 3) := sorry
theorem dX4_breach_28 : decode cX4_breach 28 = .ok (.bipush 12, 2) := sorry
theorem dX4_breach_30 : decode cX4_breach 30 = .ok (.iload_n 3, 1) := sorry
theorem dX4_breach_31 : decode cX4_breach 31 = .ok (.iadd, 1) := sorry
theorem dX4_breach_32 : decode cX4_breach 32 = .ok (.aload_n 1, 1) := sorry
theorem dX4_breach_33 : decode cX4_breach 33 = .ok (.getfield 36, 3) := sorry
theorem dX4_breach_36 : decode cX4_breach 36 = .ok (.iload_n 3, 1) := sorry
theorem dX4_breach_37 : decode cX4_breach 37 = .ok (.iaload, 1) := sorry
theorem dX4_breach_38 : decode cX4_breach 38 = .ok (.iastore, 1) := sorry
theorem dX4_breach_39 : decode cX4_breach 39 = .ok (.aload_n 0, 1) := sorry
theorem dX4_breach_40 : decode cX4_breach 40 = .ok (.aload_n 1, 1) := sorry
theorem dX4_breach_41 : decode cX4_breach 41 = .ok (.getfield 28, 3) := sorry
theorem dX4_breach_44 : decode cX4_breach 44 = .ok (.bipush 13, 2) := sorry
theorem dX4_breach_46 : decode cX4_breach 46 = .ok (.iaload, 1) := sorry
theorem dX4_breach_47 : decode cX4_breach 47 = .ok (.invokevirtual 64, 3) := sorry
theorem dX4_breach_50 : decode cX4_breach 50 = .ok (.aload_n 0, 1) := sorry
theorem dX4_breach_51 : decode cX4_breach 51 = .ok (.iconst 0, 1) := sorry
theorem dX4_breach_52 : decode cX4_breach 52 = .ok (.iconst 1, 1) := sorry
theorem dX4_breach_53 : decode cX4_breach 53 = .ok (.aload_n 2, 1) := sorry
theorem dX4_breach_54 : decode cX4_breach 54 = .ok (.getfield 57, 3) := sorry
theorem dX4_breach_57 : decode cX4_breach 57 = .ok (.iconst 4, 1) := sorry
theorem dX4_breach_58 : decode cX4_breach 58 = .ok (.iaload, 1) := sorry
theorem dX4_breach_59 : decode cX4_breach 59 = .ok (.invokevirtual 45, 3) := sorry
theorem dX4_breach_62 : decode cX4_breach 62 = .ok (.return_, 1) := sorry
theorem dX4_frighten_0 : decode cX4_frighten 0 = .ok (.aload_n 0, 1) := sorry
theorem dX4_frighten_1 : decode cX4_frighten 1 = .ok (.getfield 9, 3) := sorry
theorem dX4_frighten_4 : decode cX4_frighten 4 = .ok (.iconst 5, 1) := sorry
theorem dX4_frighten_5 : decode cX4_frighten 5 = .ok (.bipush 100, 2) := sorry
theorem dX4_frighten_7 : decode cX4_frighten 7 = .ok (.aload_n 0, 1) := sorry
theorem dX4_frighten_8 : decode cX4_frighten 8 = .ok (.getfield 9, 3) := sorry
theorem dX4_frighten_11 : decode cX4_frighten 11 = .ok (.iconst 5, 1) := sorry
theorem dX4_frighten_12 : decode cX4_frighten 12 = .ok (.iaload, 1) := sorry
theorem dX4_frighten_13 : decode cX4_frighten 13 = .ok (.iload_n 1, 1) := sorry
theorem dX4_frighten_14 : decode cX4_frighten 14 = .ok (.iadd, 1) := sorry
theorem dX4_frighten_15 : decode cX4_frighten 15 = .ok (.invokestatic 81, 3) := sorry
theorem dX4_frighten_18 : decode cX4_frighten 18 = .ok (.iastore, 1) := sorry
theorem dX4_frighten_19 : decode cX4_frighten 19 = .ok (.return_, 1) := sorry
set_option maxRecDepth 20000 in
theorem ggX4_mend_X4_move : GoodIn wsX4_mend wsX4_move := sorry
set_option maxRecDepth 20000 in
theorem gX4_mend_X4_move : GoodIn wsX4_mend (wsV RX4 45 RX4 yX4_move wsX4_move) := sorry
theorem dX4_mend_0 : decode cX4_mend 0 = .ok (.aload_n 1, 1) := sorry
theorem dX4_mend_1 : decode cX4_mend 1 = .ok (.getfield 28, 3) := sorry
theorem dX4_mend_4 : decode cX4_mend 4 = .ok (.bipush 18, 2) := sorry
theorem dX4_mend_6 : decode cX4_mend 6 = .ok (.iaload, 1) := sorry
theorem dX4_mend_7 : decode cX4_mend 7 = .ok (.istore_n 2, 1) := sorry
theorem dX4_mend_8 : decode cX4_mend 8 = .ok (.iconst 0, 1) := sorry
theorem dX4_mend_9 : decode cX4_mend 9 = .ok (.istore_n 3, 1) := sorry
theorem dX4_mend_10 : decode cX4_mend 10 = .ok (.iload_n 3, 1) := sorry
theorem dX4_mend_11 : decode cX4_mend 11 = .ok (.aload_n 1, 1) := sorry
theorem dX4_mend_12 : decode cX4_mend 12 = .ok (.getfield 33, 3) := sorry
theorem dX4_mend_15 : decode cX4_mend 15 = .ok (.if_icmp .ge 79, 3) := sorry
theorem dX4_mend_18 : decode cX4_mend 18 = .ok (.aload_n 1, 1) := sorry
theorem dX4_mend_19 : decode cX4_mend 19 = .ok (.getfield 97, 3) := sorry
theorem dX4_mend_22 : decode cX4_mend 22 = .ok (.iload_n 3, 1) := sorry
theorem dX4_mend_23 : decode cX4_mend 23 = .ok (.iaload, 1) := sorry
theorem dX4_mend_24 : decode cX4_mend 24 = .ok (.aload_n 1, 1) := sorry
theorem dX4_mend_25 : decode cX4_mend 25 = .ok (.getfield 36, 3) := sorry
theorem dX4_mend_28 : decode cX4_mend 28 = .ok (.iload_n 3, 1) := sorry
theorem dX4_mend_29 : decode cX4_mend 29 = .ok (.iaload, 1) := sorry
theorem dX4_mend_30 : decode cX4_mend 30 = .ok (.aload_n 0, 1) := sorry
theorem dX4_mend_31 : decode cX4_mend 31 = .ok (.getfield 9, 3) := sorry
theorem dX4_mend_34 : decode cX4_mend 34 = .ok (.bipush 12, 2) := sorry
theorem dX4_mend_36 : decode cX4_mend 36 = .ok (.iload_n 3, 1) := sorry
theorem dX4_mend_37 : decode cX4_mend 37 = .ok (.iadd, 1) := sorry
theorem dX4_mend_38 : decode cX4_mend 38 = .ok (.iaload, 1) := sorry
theorem dX4_mend_39 : decode cX4_mend 39 = .ok (.isub, 1) := sorry
theorem dX4_mend_40 : decode cX4_mend 40 = .ok (.invokestatic 81, 3) := sorry
theorem dX4_mend_43 : decode cX4_mend 43 = .ok (.istore 4, 2) := sorry
theorem dX4_mend_45 : decode cX4_mend 45 = .ok (.iload_n 2, 1) := sorry
theorem dX4_mend_46 : decode cX4_mend 46 = .ok (.ifCond .le 18, 3) := sorry
theorem dX4_mend_49 : decode cX4_mend 49 = .ok (.iload 4, 2) := sorry
theorem dX4_mend_51 : decode cX4_mend 51 = .ok (.aload_n 0, 1) := sorry
theorem dX4_mend_52 : decode cX4_mend 52 = .ok (.getfield 9, 3) := sorry
theorem dX4_mend_55 : decode cX4_mend 55 = .ok (.iconst 0, 1) := sorry
theorem dX4_mend_56 : decode cX4_mend 56 = .ok (.iaload, 1) := sorry
theorem dX4_mend_57 : decode cX4_mend 57 = .ok (.iload_n 2, 1) := sorry
theorem dX4_mend_58 : decode cX4_mend 58 = .ok (.idiv, 1) := sorry
theorem dX4_mend_59 : decode cX4_mend 59 = .ok (.invokestatic 81, 3) := sorry
theorem dX4_mend_62 : decode cX4_mend 62 = .ok (.istore 4, 2) := sorry
theorem dX4_mend_64 : decode cX4_mend 64 = .ok (.aload_n 0, 1) := sorry
theorem dX4_mend_65 : decode cX4_mend 65 = .ok (.getfield 9, 3) := sorry
theorem dX4_mend_68 : decode cX4_mend 68 = .ok (.bipush 12, 2) := sorry
theorem dX4_mend_70 : decode cX4_mend 70 = .ok (.iload_n 3, 1) := sorry
theorem dX4_mend_71 : decode cX4_mend 71 = .ok (.iadd, 1) := sorry
theorem dX4_mend_72 : decode cX4_mend 72 = .ok (.dup2, 1) := sorry
theorem dX4_mend_73 : decode cX4_mend 73 = .ok (.iaload, 1) := sorry
theorem dX4_mend_74 : decode cX4_mend 74 = .ok (.iload 4, 2) := sorry
theorem dX4_mend_76 : decode cX4_mend 76 = .ok (.iadd, 1) := sorry
theorem dX4_mend_77 : decode cX4_mend 77 = .ok (.iastore, 1) := sorry
theorem dX4_mend_78 : decode cX4_mend 78 = .ok (.aload_n 0, 1) := sorry
theorem dX4_mend_79 : decode cX4_mend 79 = .ok (.iconst 0, 1) := sorry
theorem dX4_mend_80 : decode cX4_mend 80 = .ok (.iconst 2, 1) := sorry
theorem dX4_mend_81 : decode cX4_mend 81 = .ok (.iload 4, 2) := sorry
theorem dX4_mend_83 : decode cX4_mend 83 = .ok (.iload_n 2, 1) := sorry
theorem dX4_mend_84 : decode cX4_mend 84 = .ok (.imul, 1) := sorry
theorem dX4_mend_85 : decode cX4_mend 85 = .ok (.invokevirtual 45, 3) := sorry
theorem dX4_mend_88 : decode cX4_mend 88 = .ok (.iinc 3 1, 3) := sorry
theorem dX4_mend_91 : decode cX4_mend 91 = .ok (.goto (-81), 3) := sorry
theorem dX4_mend_94 : decode cX4_mend 94 = .ok (.return_, 1) := sorry
theorem dX4_desert_0 : decode cX4_desert 0 = .ok (.iload_n 1, 1) := sorry
theorem dX4_desert_1 : decode cX4_desert 1 = .ok (.ifCond .le 7, 3) := sorry
theorem dX4_desert_4 : decode cX4_desert 4 = .ok (.iconst 3, 1) := sorry
theorem dX4_desert_5 : decode cX4_desert 5 = .ok (.goto 4, 3) := sorry
theorem dX4_desert_8 : decode cX4_desert 8 = .ok (.iconst 4, 1) := sorry
theorem dX4_desert_9 : decode cX4_desert 9 = .ok (.istore_n 2, 1) := sorry
theorem dX4_desert_10 : decode cX4_desert 10 = .ok (.iload_n 1, 1) := sorry
theorem dX4_desert_11 : decode cX4_desert 11 = .ok (.ifCond .le 7, 3) := sorry
theorem dX4_desert_14 : decode cX4_desert 14 = .ok (.iconst 4, 1) := sorry
theorem dX4_desert_15 : decode cX4_desert 15 = .ok (.goto 4, 3) := sorry
theorem dX4_desert_18 : decode cX4_desert 18 = .ok (.iconst 3, 1) := sorry
theorem dX4_desert_19 : decode cX4_desert 19 = .ok (.istore_n 3, 1) := sorry
theorem dX4_desert_20 : decode cX4_desert 20 = .ok (.aload_n 0, 1) := sorry
theorem dX4_desert_21 : decode cX4_desert 21 = .ok (.getfield 9, 3) := sorry
theorem dX4_desert_24 : decode cX4_desert 24 = .ok (.iload_n 2, 1) := sorry
theorem dX4_desert_25 : decode cX4_desert 25 = .ok (.iaload, 1) := sorry
theorem dX4_desert_26 : decode cX4_desert 26 = .ok (.iload_n 1, 1) := sorry
theorem dX4_desert_27 : decode cX4_desert 27 = .ok (.invokestatic 100, 3) := sorry
theorem dX4_desert_30 : decode cX4_desert 30 = .ok (.imul, 1) := sorry
theorem dX4_desert_31 : decode cX4_desert 31 = .ok (.bipush 100, 2) := sorry
theorem dX4_desert_33 : decode cX4_desert 33 = .ok (.idiv, 1) := sorry
theorem dX4_desert_34 : decode cX4_desert 34 = .ok (.istore 4, 2) := sorry
theorem dX4_desert_36 : decode cX4_desert 36 = .ok (.aload_n 0, 1) := sorry
theorem dX4_desert_37 : decode cX4_desert 37 = .ok (.getfield 9, 3) := sorry
theorem dX4_desert_40 : decode cX4_desert 40 = .ok (.iload_n 2, 1) := sorry
theorem dX4_desert_41 : decode cX4_desert 41 = .ok (.dup2, 1) := sorry
theorem dX4_desert_42 : decode cX4_desert 42 = .ok (.iaload, 1) := sorry
theorem dX4_desert_43 : decode cX4_desert 43 = .ok (.iload 4, 2) := sorry
theorem dX4_desert_45 : decode cX4_desert 45 = .ok (.isub, 1) := sorry
theorem dX4_desert_46 : decode cX4_desert 46 = .ok (.iastore, 1) := sorry
theorem dX4_desert_47 : decode cX4_desert 47 = .ok (.aload_n 0, 1) := sorry
theorem dX4_desert_48 : decode cX4_desert 48 = .ok (.getfield 9, 3) := sorry
theorem dX4_desert_51 : decode cX4_desert 51 = .ok (.iload_n 3, 1) := sorry
theorem dX4_desert_52 : decode cX4_desert 52 = .ok (.dup2, 1) := sorry
theorem dX4_desert_53 : decode cX4_desert 53 = .ok (.iaload, 1) := sorry
theorem dX4_desert_54 : decode cX4_desert 54 = .ok (.iload 4, 2) := sorry
theorem dX4_desert_56 : decode cX4_desert 56 = .ok (.iadd, 1) := sorry
theorem dX4_desert_57 : decode cX4_desert 57 = .ok (.iastore, 1) := sorry
theorem dX4_desert_58 : decode cX4_desert 58 = .ok (.return_, 1) := sorry
set_option maxRecDepth 20000 in
theorem ggX5_init_X9_init : GoodIn wsX5_init wsX9_init := sorry
set_option maxRecDepth 20000 in
theorem gX5_init_X9_init_n3 : GoodIn wsX5_init (wsX9_init) := sorry
theorem dX5_init_0 : decode cX5_init 0 = .ok (.aload_n 0, 1) := sorry
theorem dX5_init_1 : decode cX5_init 1 = .ok (.invokespecial 3, 3) := sorry
theorem dX5_init_4 : decode cX5_init 4 = .ok (.aload_n 0, 1) := sorry
theorem dX5_init_5 : decode cX5_init 5 = .ok (.bipush 6, 2) := sorry
theorem dX5_init_7 : decode cX5_init 7 = .ok (.newarray .int, 2) := sorry
theorem dX5_init_9 : decode cX5_init 9 = .ok (.putfield 11, 3) := sorry
theorem dX5_init_12 : decode cX5_init 12 = .ok (.aload_n 0, 1) := sorry
theorem dX5_init_13 : decode cX5_init 13 = .ok (.bipush 36, 2) := sorry
theorem dX5_init_15 : decode cX5_init 15 = .ok (.newarray .int, 2) := sorry
theorem dX5_init_17 : decode cX5_init 17 = .ok (.putfield 15, 3) := sorry
theorem dX5_init_20 : decode cX5_init 20 = .ok (.return_, 1) := sorry
set_option maxRecDepth 20000 in
theorem ggX5_clear_J7_fill_53178 : GoodIn wsX5_clear wsJ7_fill_53178 := sorry
set_option maxRecDepth 20000 in
theorem gX5_clear_J7_fill_53178 : GoodIn wsX5_clear (va_wsS RX5 22 yJ7_fill_53178 wsJ7_fill_53178) := sorry
theorem dX5_clear_0 : decode cX5_clear 0 = .ok (.aload_n 0, 1) := sorry
theorem dX5_clear_1 : decode cX5_clear 1 = .ok (.iload_n 1, 1) := sorry
theorem dX5_clear_2 : decode cX5_clear 2 = .ok (.putfield 18, 3) := sorry
theorem dX5_clear_5 : decode cX5_clear 5 = .ok (.aload_n 0, 1) := sorry
theorem dX5_clear_6 : decode cX5_clear 6 = .ok (.getfield 11, 3) := sorry
theorem dX5_clear_9 : decode cX5_clear 9 = .ok (.iconst 0, 1) := sorry
theorem dX5_clear_10 : decode cX5_clear 10 = .ok (.iconst 0, 1) := sorry
theorem dX5_clear_11 : decode cX5_clear 11 = .ok (.iastore, 1) := sorry
theorem dX5_clear_12 : decode cX5_clear 12 = .ok (.aload_n 0, 1) := sorry
theorem dX5_clear_13 : decode cX5_clear 13 = .ok (.getfield 11, 3) := sorry
theorem dX5_clear_16 : decode cX5_clear 16 = .ok (.iconst 1, 1) := sorry
theorem dX5_clear_17 : decode cX5_clear 17 = .ok (.iconst (-1), 1) := sorry
theorem dX5_clear_18 : decode cX5_clear 18 = .ok (.iastore, 1) := sorry
theorem dX5_clear_19 : decode cX5_clear 19 = .ok (.aload_n 0, 1) := sorry
theorem dX5_clear_20 : decode cX5_clear 20 = .ok (.getfield 11, 3) := sorry
theorem dX5_clear_23 : decode cX5_clear 23 = .ok (.iconst 2, 1) := sorry
theorem dX5_clear_24 : decode cX5_clear 24 = .ok (.bipush 9, 2) := sorry
theorem dX5_clear_26 : decode cX5_clear 26 = .ok (.iastore, 1) := sorry
theorem dX5_clear_27 : decode cX5_clear 27 = .ok (.aload_n 0, 1) := sorry
theorem dX5_clear_28 : decode cX5_clear 28 = .ok (.getfield 11, 3) := sorry
theorem dX5_clear_31 : decode cX5_clear 31 = .ok (.iconst 3, 1) := sorry
theorem dX5_clear_32 : decode cX5_clear 32 = .ok (.iconst 0, 1) := sorry
theorem dX5_clear_33 : decode cX5_clear 33 = .ok (.iastore, 1) := sorry
theorem dX5_clear_34 : decode cX5_clear 34 = .ok (.aload_n 0, 1) := sorry
theorem dX5_clear_35 : decode cX5_clear 35 = .ok (.getfield 11, 3) := sorry
theorem dX5_clear_38 : decode cX5_clear 38 = .ok (.iconst 4, 1) := sorry
theorem dX5_clear_39 : decode cX5_clear 39 = .ok (.iconst 0, 1) := sorry
theorem dX5_clear_40 : decode cX5_clear 40 = .ok (.iastore, 1) := sorry
theorem dX5_clear_41 : decode cX5_clear 41 = .ok (.aload_n 0, 1) := sorry
theorem dX5_clear_42 : decode cX5_clear 42 = .ok (.getfield 11, 3) := sorry
theorem dX5_clear_45 : decode cX5_clear 45 = .ok (.iconst 5, 1) := sorry
theorem dX5_clear_46 : decode cX5_clear 46 = .ok (.bipush 36, 2) := sorry
theorem dX5_clear_48 : decode cX5_clear 48 = .ok (.iastore, 1) := sorry
theorem dX5_clear_49 : decode cX5_clear 49 = .ok (.aload_n 0, 1) := sorry
theorem dX5_clear_50 : decode cX5_clear 50 = .ok (.getfield 15, 3) := sorry
theorem dX5_clear_53 : decode cX5_clear 53 = .ok (.iconst (-1), 1) := sorry
theorem dX5_clear_54 : decode cX5_clear 54 = .ok (.invokestatic 22, 3) := sorry
theorem dX5_clear_57 : decode cX5_clear 57 = .ok (.return_, 1) := sorry
set_option maxRecDepth 20000 in
theorem ggX5_propose_X5_clear : GoodIn wsX5_propose wsX5_clear := sorry
set_option maxRecDepth 20000 in
theorem gX5_propose_X5_clear : GoodIn wsX5_propose (wsV RX5 28 RX5 yX5_clear wsX5_clear) := sorry
theorem dX5_propose_0 : decode cX5_propose 0 = .ok (.aload_n 0, 1) := sorry
theorem dX5_propose_1 : decode cX5_propose 1 = .ok (.iconst 0, 1) := sorry
theorem dX5_propose_2 : decode cX5_propose 2 = .ok (.invokevirtual 28, 3) := sorry
theorem dX5_propose_5 : decode cX5_propose 5 = .ok (.aload_n 0, 1) := sorry
theorem dX5_propose_6 : decode cX5_propose 6 = .ok (.getfield 11, 3) := sorry
theorem dX5_propose_9 : decode cX5_propose 9 = .ok (.iconst 0, 1) := sorry
theorem dX5_propose_10 : decode cX5_propose 10 = .ok (.iload_n 1, 1) := sorry
theorem dX5_propose_11 : decode cX5_propose 11 = .ok (.iastore, 1) := sorry
theorem dX5_propose_12 : decode cX5_propose 12 = .ok (.aload_n 0, 1) := sorry
theorem dX5_propose_13 : decode cX5_propose 13 = .ok (.getfield 11, 3) := sorry
theorem dX5_propose_16 : decode cX5_propose 16 = .ok (.iconst 2, 1) := sorry
theorem dX5_propose_17 : decode cX5_propose 17 = .ok (.iload_n 2, 1) := sorry
theorem dX5_propose_18 : decode cX5_propose 18 = .ok (.iastore, 1) := sorry
theorem dX5_propose_19 : decode cX5_propose 19 = .ok (.aload_n 0, 1) := sorry
theorem dX5_propose_20 : decode cX5_propose 20 = .ok (.getfield 11, 3) := sorry
theorem dX5_propose_23 : decode cX5_propose 23 = .ok (.iconst 3, 1) := sorry
theorem dX5_propose_24 : decode cX5_propose 24 = .ok (.iload_n 3, 1) := sorry
theorem dX5_propose_25 : decode cX5_propose 25 = .ok (.iastore, 1) := sorry
theorem dX5_propose_26 : decode cX5_propose 26 = .ok (.aload_n 0, 1) := sorry
theorem dX5_propose_27 : decode cX5_propose 27 = .ok (.getfield 11, 3) := sorry
theorem dX5_propose_30 : decode cX5_propose 30 = .ok (.iconst 5, 1) := sorry
theorem dX5_propose_31 : decode cX5_propose 31 = .ok (.iload 4, 2) := sorry
theorem dX5_propose_33 : decode cX5_propose 33 = .ok (.iastore, 1) := sorry
theorem dX5_propose_34 : decode cX5_propose 34 = .ok (.return_, 1) := sorry
theorem dX5_words_0 : decode cX5_words 0 = .ok (.ldc 32, 2) := sorry
theorem dX5_words_2 : decode cX5_words 2 = .ok (.areturn, 1) := sorry
theorem dX5_mostParts_0 : decode cX5_mostParts 0 = .ok (.bipush 20, 2) := sorry
theorem dX5_mostParts_2 : decode cX5_mostParts 2 = .ok (.ireturn, 1) := sorry
theorem dX5_isFull_0 : decode cX5_isFull 0 = .ok (.iconst 0, 1) := sorry
theorem dX5_isFull_1 : decode cX5_isFull 1 = .ok (.ireturn, 1) := sorry
theorem dX5_numbers_0 : decode cX5_numbers 0 = .ok (.iload_n 1, 1) := sorry
theorem dX5_numbers_1 : decode cX5_numbers 1 = .ok (.bipush 6, 2) := sorry
theorem dX5_numbers_3 : decode cX5_numbers 3 = .ok (.if_icmp .ne 7, 3) := sorry
theorem dX5_numbers_6 : decode cX5_numbers 6 = .ok (.iconst 2, 1) := sorry
theorem dX5_numbers_7 : decode cX5_numbers 7 = .ok (.goto 4, 3) := sorry
theorem dX5_numbers_10 : decode cX5_numbers 10 = .ok (.iconst 1, 1) := sorry
theorem dX5_numbers_11 : decode cX5_numbers 11 = .ok (.ireturn, 1) := sorry
theorem dX5_low_0 : decode cX5_low 0 = .ok (.iload_n 1, 1) := sorry
theorem dX5_low_1 : decode cX5_low 1 = .ok (.iconst 5, 1) := sorry
theorem dX5_low_2 : decode cX5_low 2 = .ok (.if_icmp .ne 7, 3) := sorry
theorem dX5_low_5 : decode cX5_low 5 = .ok (.iconst 1, 1) := sorry
theorem dX5_low_6 : decode cX5_low 6 = .ok (.goto 4, 3) := sorry
theorem dX5_low_9 : decode cX5_low 9 = .ok (.iconst 0, 1) := sorry
theorem dX5_low_10 : decode cX5_low 10 = .ok (.ireturn, 1) := sorry
set_option maxRecDepth 20000 in
theorem ggX5_high_X10_within : GoodIn wsX5_high wsX10_within := sorry
set_option maxRecDepth 20000 in
theorem gX5_high_X10_within_n37 : GoodIn wsX5_high (wsX10_within) := sorry
theorem dX5_high_0 : decode cX5_high 0 = .ok (.iload_n 1, 1) := sorry
theorem dX5_high_1 : decode cX5_high 1 = .ok (.bipush 6, 2) := sorry
theorem dX5_high_3 : decode cX5_high 3 = .ok (.if_icmp .ne 19, 3) := sorry
theorem dX5_high_6 : decode cX5_high 6 = .ok (.iload_n 2, 1) := sorry
theorem dX5_high_7 : decode cX5_high 7 = .ok (.ifCond .ne 12, 3) := sorry
theorem dX5_high_10 : decode cX5_high 10 = .ok (.aload_n 0, 1) := sorry
theorem dX5_high_11 : decode cX5_high 11 = .ok (.getfield 18, 3) := sorry
theorem dX5_high_14 : decode cX5_high 14 = .ok (.iconst 1, 1) := sorry
theorem dX5_high_15 : decode cX5_high 15 = .ok (.isub, 1) := sorry
theorem dX5_high_16 : decode cX5_high 16 = .ok (.goto 5, 3) := sorry
theorem dX5_high_19 : decode cX5_high 19 = .ok (.bipush 35, 2) := sorry
theorem dX5_high_21 : decode cX5_high 21 = .ok (.ireturn, 1) := sorry
theorem dX5_high_22 : decode cX5_high 22 = .ok (.iload_n 1, 1) := sorry
theorem dX5_high_23 : decode cX5_high 23 = .ok (.iconst 0, 1) := sorry
theorem dX5_high_24 : decode cX5_high 24 = .ok (.getstatic 34, 3) := sorry
theorem dX5_high_27 : decode cX5_high 27 = .ok (.arraylength, 1) := sorry
theorem dX5_high_28 : decode cX5_high 28 = .ok (.iconst 1, 1) := sorry
theorem dX5_high_29 : decode cX5_high 29 = .ok (.isub, 1) := sorry
theorem dX5_high_30 : decode cX5_high 30 = .ok (.invokestatic 37, 3) := sorry
theorem dX5_high_33 : decode cX5_high 33 = .ok (.ifCond .eq 11, 3) := sorry
theorem dX5_high_36 : decode cX5_high 36 = .ok (.getstatic 34, 3) := sorry
theorem dX5_high_39 : decode cX5_high 39 = .ok (.iload_n 1, 1) := sorry
theorem dX5_high_40 : decode cX5_high 40 = .ok (.iaload, 1) := sorry
theorem dX5_high_41 : decode cX5_high 41 = .ok (.goto 4, 3) := sorry
theorem dX5_high_44 : decode cX5_high 44 = .ok (.iconst 0, 1) := sorry
theorem dX5_high_45 : decode cX5_high 45 = .ok (.ireturn, 1) := sorry
set_option maxRecDepth 20000 in
theorem ggX5_store_X10_within : GoodIn wsX5_store wsX10_within := sorry
set_option maxRecDepth 20000 in
theorem gX5_store_X10_within_n37 : GoodIn wsX5_store (wsX10_within) := sorry
theorem dX5_store_0 : decode cX5_store 0 = .ok (.iload_n 1, 1) := sorry
theorem dX5_store_1 : decode cX5_store 1 = .ok (.bipush 6, 2) := sorry
theorem dX5_store_3 : decode cX5_store 3 = .ok (.if_icmp .ne 29, 3) := sorry
theorem dX5_store_6 : decode cX5_store 6 = .ok (.aload_n 2, 1) := sorry
theorem dX5_store_7 : decode cX5_store 7 = .ok (.iconst 1, 1) := sorry
theorem dX5_store_8 : decode cX5_store 8 = .ok (.iaload, 1) := sorry
theorem dX5_store_9 : decode cX5_store 9 = .ok (.iconst 0, 1) := sorry
theorem dX5_store_10 : decode cX5_store 10 = .ok (.bipush 35, 2) := sorry
theorem dX5_store_12 : decode cX5_store 12 = .ok (.invokestatic 37, 3) := sorry
theorem dX5_store_15 : decode cX5_store 15 = .ok (.ifCond .eq 41, 3) := sorry
theorem dX5_store_18 : decode cX5_store 18 = .ok (.aload_n 0, 1) := sorry
theorem dX5_store_19 : decode cX5_store 19 = .ok (.getfield 15, 3) := sorry
theorem dX5_store_22 : decode cX5_store 22 = .ok (.aload_n 2, 1) := sorry
theorem dX5_store_23 : decode cX5_store 23 = .ok (.iconst 1, 1) := sorry
theorem dX5_store_24 : decode cX5_store 24 = .ok (.iaload, 1) := sorry
theorem dX5_store_25 : decode cX5_store 25 = .ok (.aload_n 2, 1) := sorry
theorem dX5_store_26 : decode cX5_store 26 = .ok (.iconst 0, 1) := sorry
theorem dX5_store_27 : decode cX5_store 27 = .ok (.iaload, 1) := sorry
theorem dX5_store_28 : decode cX5_store 28 = .ok (.iastore, 1) := sorry
theorem dX5_store_29 : decode cX5_store 29 = .ok (.goto 27, 3) := sorry
theorem dX5_store_32 : decode cX5_store 32 = .ok (.iload_n 1, 1) := sorry
theorem dX5_store_33 : decode cX5_store 33 = .ok (.iconst 0, 1) := sorry
theorem dX5_store_34 : decode cX5_store 34 = .ok (.aload_n 0, 1) := sorry
theorem dX5_store_35 : decode cX5_store 35 = .ok (.getfield 11, 3) := sorry
theorem dX5_store_38 : decode cX5_store 38 = .ok (.arraylength, 1) := sorry
theorem dX5_store_39 : decode cX5_store 39 = .ok (.iconst 1, 1) := sorry
theorem dX5_store_40 : decode cX5_store 40 = .ok (.isub, 1) := sorry
theorem dX5_store_41 : decode cX5_store 41 = .ok (.invokestatic 37, 3) := sorry
theorem dX5_store_44 : decode cX5_store 44 = .ok (.ifCond .eq 12, 3) := sorry
theorem dX5_store_47 : decode cX5_store 47 = .ok (.aload_n 0, 1) := sorry
theorem dX5_store_48 : decode cX5_store 48 = .ok (.getfield 11, 3) := sorry
theorem dX5_store_51 : decode cX5_store 51 = .ok (.iload_n 1, 1) := sorry
theorem dX5_store_52 : decode cX5_store 52 = .ok (.aload_n 2, 1) := sorry
theorem dX5_store_53 : decode cX5_store 53 = .ok (.iconst 0, 1) := sorry
theorem dX5_store_54 : decode cX5_store 54 = .ok (.iaload, 1) := sorry
theorem dX5_store_55 : decode cX5_store 55 = .ok (.iastore, 1) := sorry
theorem dX5_store_56 : decode cX5_store 56 = .ok (.return_, 1) := sorry
set_option maxRecDepth 20000 in
theorem ggX5_answer_X5_breachesTold : GoodIn wsX5_answer wsX5_breachesTold := sorry
set_option maxRecDepth 20000 in
theorem gX5_answer_X5_breachesTold : GoodIn wsX5_answer (wsV RX5 41 RX5 yX5_breachesTold wsX5_breachesTold) := sorry
set_option maxRecDepth 20000 in
theorem ggX5_answer_X5_winterPay : GoodIn wsX5_answer wsX5_winterPay := sorry
set_option maxRecDepth 20000 in
theorem gX5_answer_X5_winterPay : GoodIn wsX5_answer (wsV RX5 45 RX5 yX5_winterPay wsX5_winterPay) := sorry
theorem dX5_answer_0 : decode cX5_answer 0 = .ok (.iload_n 1, 1) := sorry
theorem dX5_answer_1 : decode cX5_answer 1 = .ok (.bipush 6, 2) := sorry
theorem dX5_answer_3 : decode cX5_answer 3 = .ok (.if_icmp .ne 8, 3) := sorry
theorem dX5_answer_6 : decode cX5_answer 6 = .ok (.aload_n 0, 1) := sorry
theorem dX5_answer_7 : decode cX5_answer 7 = .ok (.invokevirtual 41, 3) := sorry
theorem dX5_answer_10 : decode cX5_answer 10 = .ok (.ireturn, 1) := sorry
theorem dX5_answer_11 : decode cX5_answer 11 = .ok (.iload_n 1, 1) := sorry
theorem dX5_answer_12 : decode cX5_answer 12 = .ok (.iconst 1, 1) := sorry
theorem dX5_answer_13 : decode cX5_answer 13 = .ok (.if_icmp .ne 10, 3) := sorry
theorem dX5_answer_16 : decode cX5_answer 16 = .ok (.aload_n 0, 1) := sorry
theorem dX5_answer_17 : decode cX5_answer 17 = .ok (.invokevirtual 45, 3) := sorry
theorem dX5_answer_20 : decode cX5_answer 20 = .ok (.goto 9, 3) := sorry
theorem dX5_answer_23 : decode cX5_answer 23 = .ok (.aload_n 0, 1) := sorry
theorem dX5_answer_24 : decode cX5_answer 24 = .ok (.getfield 11, 3) := sorry
theorem dX5_answer_27 : decode cX5_answer 27 = .ok (.iload_n 1, 1) := sorry
theorem dX5_answer_28 : decode cX5_answer 28 = .ok (.iaload, 1) := sorry
theorem dX5_answer_29 : decode cX5_answer 29 = .ok (.ireturn, 1) := sorry
theorem dX5_winterPay_0 : decode cX5_winterPay 0 = .ok (.aload_n 0, 1) := sorry
theorem dX5_winterPay_1 : decode cX5_winterPay 1 = .ok (.getfield 11, 3) := sorry
theorem dX5_winterPay_4 : decode cX5_winterPay 4 = .ok (.iconst 1, 1) := sorry
theorem dX5_winterPay_5 : decode cX5_winterPay 5 = .ok (.iaload, 1) := sorry
theorem dX5_winterPay_6 : decode cX5_winterPay 6 = .ok (.iconst (-1), 1) := sorry
theorem dX5_winterPay_7 : decode cX5_winterPay 7 = .ok (.if_icmp .ne 12, 3) := sorry
theorem dX5_winterPay_10 : decode cX5_winterPay 10 = .ok (.aload_n 0, 1) := sorry
theorem dX5_winterPay_11 : decode cX5_winterPay 11 = .ok (.getfield 11, 3) := sorry
theorem dX5_winterPay_14 : decode cX5_winterPay 14 = .ok (.iconst 0, 1) := sorry
theorem dX5_winterPay_15 : decode cX5_winterPay 15 = .ok (.iaload, 1) := sorry
theorem dX5_winterPay_16 : decode cX5_winterPay 16 = .ok (.goto 9, 3) := sorry
theorem dX5_winterPay_19 : decode cX5_winterPay 19 = .ok (.aload_n 0, 1) := sorry
theorem dX5_winterPay_20 : decode cX5_winterPay 20 = .ok (.getfield 11, 3) := sorry
theorem dX5_winterPay_23 : decode cX5_winterPay 23 = .ok (.iconst 1, 1) := sorry
theorem dX5_winterPay_24 : decode cX5_winterPay 24 = .ok (.iaload, 1) := sorry
theorem dX5_winterPay_25 : decode cX5_winterPay 25 = .ok (.ireturn, 1) := sorry
theorem dX5_breachesTold_0 : decode cX5_breachesTold 0 = .ok (.iconst 0, 1) := sorry
theorem dX5_breachesTold_1 : decode cX5_breachesTold 1 = .ok (.istore_n 1, 1) := sorry
theorem dX5_breachesTold_2 : decode cX5_breachesTold 2 = .ok (.aload_n 0, 1) := sorry
theorem dX5_breachesTold_3 : decode cX5_breachesTold 3 = .ok (.getfield 15, 3) := sorry
theorem dX5_breachesTold_6 : decode cX5_breachesTold 6 = .ok (.astore_n 2, 1) := sorry
theorem dX5_breachesTold_7 : decode cX5_breachesTold 7 = .ok (.aload_n 2, 1) := sorry
theorem dX5_breachesTold_8 : decode cX5_breachesTold 8 = .ok (.arraylength, 1) := sorry
theorem dX5_breachesTold_9 : decode cX5_breachesTold 9 = .ok (.istore_n 3, 1) := sorry
theorem dX5_breachesTold_10 : decode cX5_breachesTold 10 = .ok (.iconst 0, 1) := sorry
theorem dX5_breachesTold_11 : decode cX5_breachesTold 11 = .ok (.istore 4, 2) := sorry
theorem dX5_breachesTold_13 : decode cX5_breachesTold 13 = .ok (.iload 4, 2) := sorry
theorem dX5_breachesTold_15 : decode cX5_breachesTold 15 = .ok (.iload_n 3, 1) := sorry
theorem dX5_breachesTold_16 : decode cX5_breachesTold 16 = .ok (.if_icmp .ge 24, 3) := sorry
theorem dX5_breachesTold_19 : decode cX5_breachesTold 19 = .ok (.aload_n 2, 1) := sorry
theorem dX5_breachesTold_20 : decode cX5_breachesTold 20 = .ok (.iload 4, 2) := sorry
theorem dX5_breachesTold_22 : decode cX5_breachesTold 22 = .ok (.iaload, 1) := sorry
theorem dX5_breachesTold_23 : decode cX5_breachesTold 23 = .ok (.istore 5, 2) := sorry
theorem dX5_breachesTold_25 : decode cX5_breachesTold 25 = .ok (.iload 5, 2) := sorry
theorem dX5_breachesTold_27 : decode cX5_breachesTold 27 = .ok (.iconst (-1), 1) := sorry
theorem dX5_breachesTold_28 : decode cX5_breachesTold 28 = .ok (.if_icmp .eq 6, 3) := sorry
theorem dX5_breachesTold_31 : decode cX5_breachesTold 31 = .ok (.iinc 1 1, 3) := sorry
theorem dX5_breachesTold_34 : decode cX5_breachesTold 34 = .ok (.iinc 4 1, 3) := sorry
theorem dX5_breachesTold_37 : decode cX5_breachesTold 37 = .ok (.goto (-24), 3) := sorry
theorem dX5_breachesTold_40 : decode cX5_breachesTold 40 = .ok (.iload_n 1, 1) := sorry
theorem dX5_breachesTold_41 : decode cX5_breachesTold 41 = .ok (.ireturn, 1) := sorry
set_option maxRecDepth 20000 in
theorem ggX5_payIn_X5_winterPay : GoodIn wsX5_payIn wsX5_winterPay := sorry
set_option maxRecDepth 20000 in
theorem gX5_payIn_X5_winterPay : GoodIn wsX5_payIn (wsV RX5 45 RX5 yX5_winterPay wsX5_winterPay) := sorry
theorem dX5_payIn_0 : decode cX5_payIn 0 = .ok (.iload_n 1, 1) := sorry
theorem dX5_payIn_1 : decode cX5_payIn 1 = .ok (.bipush 12, 2) := sorry
theorem dX5_payIn_3 : decode cX5_payIn 3 = .ok (.irem, 1) := sorry
theorem dX5_payIn_4 : decode cX5_payIn 4 = .ok (.istore_n 2, 1) := sorry
theorem dX5_payIn_5 : decode cX5_payIn 5 = .ok (.iload_n 2, 1) := sorry
theorem dX5_payIn_6 : decode cX5_payIn 6 = .ok (.bipush 10, 2) := sorry
theorem dX5_payIn_8 : decode cX5_payIn 8 = .ok (.if_icmp .ge 8, 3) := sorry
theorem dX5_payIn_11 : decode cX5_payIn 11 = .ok (.iload_n 2, 1) := sorry
theorem dX5_payIn_12 : decode cX5_payIn 12 = .ok (.iconst 1, 1) := sorry
theorem dX5_payIn_13 : decode cX5_payIn 13 = .ok (.if_icmp .gt 10, 3) := sorry
theorem dX5_payIn_16 : decode cX5_payIn 16 = .ok (.aload_n 0, 1) := sorry
theorem dX5_payIn_17 : decode cX5_payIn 17 = .ok (.invokevirtual 45, 3) := sorry
theorem dX5_payIn_20 : decode cX5_payIn 20 = .ok (.goto 9, 3) := sorry
theorem dX5_payIn_23 : decode cX5_payIn 23 = .ok (.aload_n 0, 1) := sorry
theorem dX5_payIn_24 : decode cX5_payIn 24 = .ok (.getfield 11, 3) := sorry
theorem dX5_payIn_27 : decode cX5_payIn 27 = .ok (.iconst 0, 1) := sorry
theorem dX5_payIn_28 : decode cX5_payIn 28 = .ok (.iaload, 1) := sorry
theorem dX5_payIn_29 : decode cX5_payIn 29 = .ok (.ireturn, 1) := sorry
set_option maxRecDepth 20000 in
theorem ggX5_wallDue_X10_within : GoodIn wsX5_wallDue wsX10_within := sorry
set_option maxRecDepth 20000 in
theorem gX5_wallDue_X10_within_n37 : GoodIn wsX5_wallDue (wsX10_within) := sorry
theorem dX5_wallDue_0 : decode cX5_wallDue 0 = .ok (.iload_n 1, 1) := sorry
theorem dX5_wallDue_1 : decode cX5_wallDue 1 = .ok (.iconst 0, 1) := sorry
theorem dX5_wallDue_2 : decode cX5_wallDue 2 = .ok (.bipush 35, 2) := sorry
theorem dX5_wallDue_4 : decode cX5_wallDue 4 = .ok (.invokestatic 37, 3) := sorry
theorem dX5_wallDue_7 : decode cX5_wallDue 7 = .ok (.ifCond .eq 12, 3) := sorry
theorem dX5_wallDue_10 : decode cX5_wallDue 10 = .ok (.aload_n 0, 1) := sorry
theorem dX5_wallDue_11 : decode cX5_wallDue 11 = .ok (.getfield 15, 3) := sorry
theorem dX5_wallDue_14 : decode cX5_wallDue 14 = .ok (.iload_n 1, 1) := sorry
theorem dX5_wallDue_15 : decode cX5_wallDue 15 = .ok (.iaload, 1) := sorry
theorem dX5_wallDue_16 : decode cX5_wallDue 16 = .ok (.goto 4, 3) := sorry
theorem dX5_wallDue_19 : decode cX5_wallDue 19 = .ok (.iconst (-1), 1) := sorry
theorem dX5_wallDue_20 : decode cX5_wallDue 20 = .ok (.istore_n 3, 1) := sorry
theorem dX5_wallDue_21 : decode cX5_wallDue 21 = .ok (.iload_n 3, 1) := sorry
theorem dX5_wallDue_22 : decode cX5_wallDue 22 = .ok (.iload_n 2, 1) := sorry
theorem dX5_wallDue_23 : decode cX5_wallDue 23 = .ok (.if_icmp .ge 7, 3) := sorry
theorem dX5_wallDue_26 : decode cX5_wallDue 26 = .ok (.iload_n 3, 1) := sorry
theorem dX5_wallDue_27 : decode cX5_wallDue 27 = .ok (.goto 4, 3) := sorry
theorem dX5_wallDue_30 : decode cX5_wallDue 30 = .ok (.iconst (-1), 1) := sorry
theorem dX5_wallDue_31 : decode cX5_wallDue 31 = .ok (.ireturn, 1) := sorry
set_option maxRecDepth 20000 in
theorem ggX6_init_X9_init : GoodIn wsX6_init wsX9_init := sorry
set_option maxRecDepth 20000 in
theorem gX6_init_X9_init_n3 : GoodIn wsX6_init (wsX9_init) := sorry
set_option maxRecDepth 20000 in
theorem ggX6_init_X6_clear : GoodIn wsX6_init wsX6_clear := sorry
set_option maxRecDepth 20000 in
theorem gX6_init_X6_clear : GoodIn wsX6_init (wsV RX6 27 RX6 yX6_clear wsX6_clear) := sorry
theorem dX6_init_0 : decode cX6_init 0 = .ok (.aload_n 0, 1) := sorry
theorem dX6_init_1 : decode cX6_init 1 = .ok (.invokespecial 3, 3) := sorry
theorem dX6_init_4 : decode cX6_init 4 = .ok (.aload_n 0, 1) := sorry
theorem dX6_init_5 : decode cX6_init 5 = .ok (.getstatic 9, 3) := sorry
theorem dX6_init_8 : decode cX6_init 8 = .ok (.arraylength, 1) := sorry
theorem dX6_init_9 : decode cX6_init 9 = .ok (.newarray .int, 2) := sorry
theorem dX6_init_11 : decode cX6_init 11 = .ok (.putfield 15, 3) := sorry
theorem dX6_init_14 : decode cX6_init 14 = .ok (.aload_n 0, 1) := sorry
theorem dX6_init_15 : decode cX6_init 15 = .ok (.bipush 10, 2) := sorry
theorem dX6_init_17 : decode cX6_init 17 = .ok (.newarray .int, 2) := sorry
theorem dX6_init_19 : decode cX6_init 19 = .ok (.putfield 18, 3) := sorry
theorem dX6_init_22 : decode cX6_init 22 = .ok (.aload_n 0, 1) := sorry
theorem dX6_init_23 : decode cX6_init 23 = .ok (.bipush 6, 2) := sorry
theorem dX6_init_25 : decode cX6_init 25 = .ok (.newarray .int, 2) := sorry
theorem dX6_init_27 : decode cX6_init 27 = .ok (.putfield 21, 3) := sorry
theorem dX6_init_30 : decode cX6_init 30 = .ok (.aload_n 0, 1) := sorry
theorem dX6_init_31 : decode cX6_init 31 = .ok (.bipush 6, 2) := sorry
theorem dX6_init_33 : decode cX6_init 33 = .ok (.newarray .int, 2) := sorry
theorem dX6_init_35 : decode cX6_init 35 = .ok (.putfield 24, 3) := sorry
theorem dX6_init_38 : decode cX6_init 38 = .ok (.aload_n 0, 1) := sorry
theorem dX6_init_39 : decode cX6_init 39 = .ok (.invokevirtual 27, 3) := sorry
theorem dX6_init_42 : decode cX6_init 42 = .ok (.return_, 1) := sorry
theorem dX6_clear_0 : decode cX6_clear 0 = .ok (.aload_n 0, 1) := sorry
theorem dX6_clear_1 : decode cX6_clear 1 = .ok (.iconst 0, 1) := sorry
theorem dX6_clear_2 : decode cX6_clear 2 = .ok (.putfield 30, 3) := sorry
theorem dX6_clear_5 : decode cX6_clear 5 = .ok (.iconst 0, 1) := sorry
theorem dX6_clear_6 : decode cX6_clear 6 = .ok (.istore_n 1, 1) := sorry
theorem dX6_clear_7 : decode cX6_clear 7 = .ok (.iload_n 1, 1) := sorry
theorem dX6_clear_8 : decode cX6_clear 8 = .ok (.aload_n 0, 1) := sorry
theorem dX6_clear_9 : decode cX6_clear 9 = .ok (.getfield 15, 3) := sorry
theorem dX6_clear_12 : decode cX6_clear 12 = .ok (.arraylength, 1) := sorry
theorem dX6_clear_13 : decode cX6_clear 13 = .ok (.if_icmp .ge 20, 3) := sorry
theorem dX6_clear_16 : decode cX6_clear 16 = .ok (.aload_n 0, 1) := sorry
theorem dX6_clear_17 : decode cX6_clear 17 = .ok (.getfield 15, 3) := sorry
theorem dX6_clear_20 : decode cX6_clear 20 = .ok (.iload_n 1, 1) := sorry
theorem dX6_clear_21 : decode cX6_clear 21 = .ok (.getstatic 9, 3) := sorry
theorem dX6_clear_24 : decode cX6_clear 24 = .ok (.iload_n 1, 1) := sorry
theorem dX6_clear_25 : decode cX6_clear 25 = .ok (.iaload, 1) := sorry
theorem dX6_clear_26 : decode cX6_clear 26 = .ok (.iastore, 1) := sorry
theorem dX6_clear_27 : decode cX6_clear 27 = .ok (.iinc 1 1, 3) := sorry
theorem dX6_clear_30 : decode cX6_clear 30 = .ok (.goto (-23), 3) := sorry
theorem dX6_clear_33 : decode cX6_clear 33 = .ok (.iconst 0, 1) := sorry
theorem dX6_clear_34 : decode cX6_clear 34 = .ok (.istore_n 1, 1) := sorry
theorem dX6_clear_35 : decode cX6_clear 35 = .ok (.iload_n 1, 1) := sorry
theorem dX6_clear_36 : decode cX6_clear 36 = .ok (.aload_n 0, 1) := sorry
theorem dX6_clear_37 : decode cX6_clear 37 = .ok (.getfield 18, 3) := sorry
theorem dX6_clear_40 : decode cX6_clear 40 = .ok (.arraylength, 1) := sorry
theorem dX6_clear_41 : decode cX6_clear 41 = .ok (.if_icmp .ge 19, 3) := sorry
theorem dX6_clear_44 : decode cX6_clear 44 = .ok (.aload_n 0, 1) := sorry
theorem dX6_clear_45 : decode cX6_clear 45 = .ok (.getfield 18, 3) := sorry
theorem dX6_clear_48 : decode cX6_clear 48 = .ok (.iload_n 1, 1) := sorry
theorem dX6_clear_49 : decode cX6_clear 49 = .ok (.bipush 9, 2) := sorry
theorem dX6_clear_51 : decode cX6_clear 51 = .ok (.iload_n 1, 1) := sorry
theorem dX6_clear_52 : decode cX6_clear 52 = .ok (.isub, 1) := sorry
theorem dX6_clear_53 : decode cX6_clear 53 = .ok (.iastore, 1) := sorry
theorem dX6_clear_54 : decode cX6_clear 54 = .ok (.iinc 1 1, 3) := sorry
theorem dX6_clear_57 : decode cX6_clear 57 = .ok (.goto (-22), 3) := sorry
theorem dX6_clear_60 : decode cX6_clear 60 = .ok (.return_, 1) := sorry
theorem dX6_words_0 : decode cX6_words 0 = .ok (.ldc 34, 2) := sorry
theorem dX6_words_2 : decode cX6_words 2 = .ok (.areturn, 1) := sorry
theorem dX6_mostParts_0 : decode cX6_mostParts 0 = .ok (.bipush 60, 2) := sorry
theorem dX6_mostParts_2 : decode cX6_mostParts 2 = .ok (.ireturn, 1) := sorry
theorem dX6_isFull_0 : decode cX6_isFull 0 = .ok (.iload_n 1, 1) := sorry
theorem dX6_isFull_1 : decode cX6_isFull 1 = .ok (.ifCond .ne 16, 3) := sorry
theorem dX6_isFull_4 : decode cX6_isFull 4 = .ok (.aload_n 0, 1) := sorry
theorem dX6_isFull_5 : decode cX6_isFull 5 = .ok (.getfield 30, 3) := sorry
theorem dX6_isFull_8 : decode cX6_isFull 8 = .ok (.bipush 6, 2) := sorry
theorem dX6_isFull_10 : decode cX6_isFull 10 = .ok (.if_icmp .lt 7, 3) := sorry
theorem dX6_isFull_13 : decode cX6_isFull 13 = .ok (.iconst 1, 1) := sorry
theorem dX6_isFull_14 : decode cX6_isFull 14 = .ok (.goto 4, 3) := sorry
theorem dX6_isFull_17 : decode cX6_isFull 17 = .ok (.iconst 0, 1) := sorry
theorem dX6_isFull_18 : decode cX6_isFull 18 = .ok (.ireturn, 1) := sorry
set_option maxRecDepth 20000 in
theorem ggX6_numbers_X10_within : GoodIn wsX6_numbers wsX10_within := sorry
set_option maxRecDepth 20000 in
theorem gX6_numbers_X10_within_n39 : GoodIn wsX6_numbers (wsX10_within) := sorry
theorem dX6_numbers_0 : decode cX6_numbers 0 = .ok (.iload_n 1, 1) := sorry
theorem dX6_numbers_1 : decode cX6_numbers 1 = .ok (.iconst 0, 1) := sorry
theorem dX6_numbers_2 : decode cX6_numbers 2 = .ok (.getstatic 36, 3) := sorry
theorem dX6_numbers_5 : decode cX6_numbers 5 = .ok (.arraylength, 1) := sorry
theorem dX6_numbers_6 : decode cX6_numbers 6 = .ok (.iconst 1, 1) := sorry
theorem dX6_numbers_7 : decode cX6_numbers 7 = .ok (.isub, 1) := sorry
theorem dX6_numbers_8 : decode cX6_numbers 8 = .ok (.invokestatic 39, 3) := sorry
theorem dX6_numbers_11 : decode cX6_numbers 11 = .ok (.ifCond .eq 11, 3) := sorry
theorem dX6_numbers_14 : decode cX6_numbers 14 = .ok (.getstatic 36, 3) := sorry
theorem dX6_numbers_17 : decode cX6_numbers 17 = .ok (.iload_n 1, 1) := sorry
theorem dX6_numbers_18 : decode cX6_numbers 18 = .ok (.iaload, 1) := sorry
theorem dX6_numbers_19 : decode cX6_numbers 19 = .ok (.goto 4, 3) := sorry
theorem dX6_numbers_22 : decode cX6_numbers 22 = .ok (.iconst 0, 1) := sorry
theorem dX6_numbers_23 : decode cX6_numbers 23 = .ok (.ireturn, 1) := sorry
theorem dX6_low_0 : decode cX6_low 0 = .ok (.iload_n 1, 1) := sorry
theorem dX6_low_1 : decode cX6_low 1 = .ok (.ifCond .ne 11, 3) := sorry
theorem dX6_low_4 : decode cX6_low 4 = .ok (.iload_n 2, 1) := sorry
theorem dX6_low_5 : decode cX6_low 5 = .ok (.ifCond .ne 7, 3) := sorry
theorem dX6_low_8 : decode cX6_low 8 = .ok (.iconst 1, 1) := sorry
theorem dX6_low_9 : decode cX6_low 9 = .ok (.goto 4, 3) := sorry
theorem dX6_low_12 : decode cX6_low 12 = .ok (.iconst 0, 1) := sorry
theorem dX6_low_13 : decode cX6_low 13 = .ok (.ireturn, 1) := sorry
set_option maxRecDepth 20000 in
theorem ggX6_high_X10_within : GoodIn wsX6_high wsX10_within := sorry
set_option maxRecDepth 20000 in
theorem gX6_high_X10_within_n39 : GoodIn wsX6_high (wsX10_within) := sorry
theorem dX6_high_0 : decode cX6_high 0 = .ok (.iload_n 1, 1) := sorry
theorem dX6_high_1 : decode cX6_high 1 = .ok (.iconst 3, 1) := sorry
theorem dX6_high_2 : decode cX6_high 2 = .ok (.imul, 1) := sorry
theorem dX6_high_3 : decode cX6_high 3 = .ok (.iload_n 2, 1) := sorry
theorem dX6_high_4 : decode cX6_high 4 = .ok (.iadd, 1) := sorry
theorem dX6_high_5 : decode cX6_high 5 = .ok (.istore_n 3, 1) := sorry
theorem dX6_high_6 : decode cX6_high 6 = .ok (.iload_n 3, 1) := sorry
theorem dX6_high_7 : decode cX6_high 7 = .ok (.iconst 0, 1) := sorry
theorem dX6_high_8 : decode cX6_high 8 = .ok (.getstatic 43, 3) := sorry
theorem dX6_high_11 : decode cX6_high 11 = .ok (.arraylength, 1) := sorry
theorem dX6_high_12 : decode cX6_high 12 = .ok (.iconst 1, 1) := sorry
theorem dX6_high_13 : decode cX6_high 13 = .ok (.isub, 1) := sorry
theorem dX6_high_14 : decode cX6_high 14 = .ok (.invokestatic 39, 3) := sorry
theorem dX6_high_17 : decode cX6_high 17 = .ok (.ifCond .eq 11, 3) := sorry
theorem dX6_high_20 : decode cX6_high 20 = .ok (.getstatic 43, 3) := sorry
theorem dX6_high_23 : decode cX6_high 23 = .ok (.iload_n 3, 1) := sorry
theorem dX6_high_24 : decode cX6_high 24 = .ok (.iaload, 1) := sorry
theorem dX6_high_25 : decode cX6_high 25 = .ok (.goto 4, 3) := sorry
theorem dX6_high_28 : decode cX6_high 28 = .ok (.iconst 0, 1) := sorry
theorem dX6_high_29 : decode cX6_high 29 = .ok (.ireturn, 1) := sorry
set_option maxRecDepth 20000 in
theorem ggX6_store_X6_addWall : GoodIn wsX6_store wsX6_addWall := sorry
set_option maxRecDepth 20000 in
theorem gX6_store_X6_addWall : GoodIn wsX6_store (wsV RX6 46 RX6 yX6_addWall wsX6_addWall) := sorry
set_option maxRecDepth 20000 in
theorem ggX6_store_X10_within : GoodIn wsX6_store wsX10_within := sorry
set_option maxRecDepth 20000 in
theorem gX6_store_X10_within_n39 : GoodIn wsX6_store (wsX10_within) := sorry
set_option maxRecDepth 20000 in
theorem ggX6_store_X6_numbers : GoodIn wsX6_store wsX6_numbers := sorry
set_option maxRecDepth 20000 in
theorem gX6_store_X6_numbers : GoodIn wsX6_store (wsV RX6 50 RX6 yX6_numbers wsX6_numbers) := sorry
theorem dX6_store_0 : decode cX6_store 0 = .ok (.iload_n 1, 1) := sorry
theorem dX6_store_1 : decode cX6_store 1 = .ok (.ifCond .ne 16, 3) := sorry
theorem dX6_store_4 : decode cX6_store 4 = .ok (.aload_n 0, 1) := sorry
theorem dX6_store_5 : decode cX6_store 5 = .ok (.aload_n 2, 1) := sorry
theorem dX6_store_6 : decode cX6_store 6 = .ok (.iconst 0, 1) := sorry
theorem dX6_store_7 : decode cX6_store 7 = .ok (.iaload, 1) := sorry
theorem dX6_store_8 : decode cX6_store 8 = .ok (.aload_n 2, 1) := sorry
theorem dX6_store_9 : decode cX6_store 9 = .ok (.iconst 1, 1) := sorry
theorem dX6_store_10 : decode cX6_store 10 = .ok (.iaload, 1) := sorry
theorem dX6_store_11 : decode cX6_store 11 = .ok (.invokevirtual 46, 3) := sorry
theorem dX6_store_14 : decode cX6_store 14 = .ok (.goto 64, 3) := sorry
theorem dX6_store_17 : decode cX6_store 17 = .ok (.iload_n 1, 1) := sorry
theorem dX6_store_18 : decode cX6_store 18 = .ok (.iconst 5, 1) := sorry
theorem dX6_store_19 : decode cX6_store 19 = .ok (.if_icmp .ne 29, 3) := sorry
theorem dX6_store_22 : decode cX6_store 22 = .ok (.aload_n 2, 1) := sorry
theorem dX6_store_23 : decode cX6_store 23 = .ok (.iconst 0, 1) := sorry
theorem dX6_store_24 : decode cX6_store 24 = .ok (.iaload, 1) := sorry
theorem dX6_store_25 : decode cX6_store 25 = .ok (.iconst 0, 1) := sorry
theorem dX6_store_26 : decode cX6_store 26 = .ok (.bipush 9, 2) := sorry
theorem dX6_store_28 : decode cX6_store 28 = .ok (.invokestatic 39, 3) := sorry
theorem dX6_store_31 : decode cX6_store 31 = .ok (.ifCond .eq 47, 3) := sorry
theorem dX6_store_34 : decode cX6_store 34 = .ok (.aload_n 0, 1) := sorry
theorem dX6_store_35 : decode cX6_store 35 = .ok (.getfield 18, 3) := sorry
theorem dX6_store_38 : decode cX6_store 38 = .ok (.aload_n 2, 1) := sorry
theorem dX6_store_39 : decode cX6_store 39 = .ok (.iconst 0, 1) := sorry
theorem dX6_store_40 : decode cX6_store 40 = .ok (.iaload, 1) := sorry
theorem dX6_store_41 : decode cX6_store 41 = .ok (.aload_n 2, 1) := sorry
theorem dX6_store_42 : decode cX6_store 42 = .ok (.iconst 1, 1) := sorry
theorem dX6_store_43 : decode cX6_store 43 = .ok (.iaload, 1) := sorry
theorem dX6_store_44 : decode cX6_store 44 = .ok (.iastore, 1) := sorry
theorem dX6_store_45 : decode cX6_store 45 = .ok (.goto 33, 3) := sorry
theorem dX6_store_48 : decode cX6_store 48 = .ok (.iconst 0, 1) := sorry
theorem dX6_store_49 : decode cX6_store 49 = .ok (.istore_n 3, 1) := sorry
theorem dX6_store_50 : decode cX6_store 50 = .ok (.iload_n 3, 1) := sorry
theorem dX6_store_51 : decode cX6_store 51 = .ok (.aload_n 0, 1) := sorry
theorem dX6_store_52 : decode cX6_store 52 = .ok (.iload_n 1, 1) := sorry
theorem dX6_store_53 : decode cX6_store 53 = .ok (.invokevirtual 50, 3) := sorry
theorem dX6_store_56 : decode cX6_store 56 = .ok (.if_icmp .ge 22, 3) := sorry
theorem dX6_store_59 : decode cX6_store 59 = .ok (.aload_n 0, 1) := sorry
theorem dX6_store_60 : decode cX6_store 60 = .ok (.getfield 15, 3) := sorry
theorem dX6_store_63 : decode cX6_store 63 = .ok (.iload_n 1, 1) := sorry
theorem dX6_store_64 : decode cX6_store 64 = .ok (.iconst 3, 1) := sorry
theorem dX6_store_65 : decode cX6_store 65 = .ok (.imul, 1) := sorry
theorem dX6_store_66 : decode cX6_store 66 = .ok (.iload_n 3, 1) := sorry
theorem dX6_store_67 : decode cX6_store 67 = .ok (.iadd, 1) := sorry
theorem dX6_store_68 : decode cX6_store 68 = .ok (.aload_n 2, 1) := sorry
theorem dX6_store_69 : decode cX6_store 69 = .ok (.iload_n 3, 1) := sorry
theorem dX6_store_70 : decode cX6_store 70 = .ok (.iaload, 1) := sorry
theorem dX6_store_71 : decode cX6_store 71 = .ok (.iastore, 1) := sorry
theorem dX6_store_72 : decode cX6_store 72 = .ok (.iinc 3 1, 3) := sorry
theorem dX6_store_75 : decode cX6_store 75 = .ok (.goto (-25), 3) := sorry
theorem dX6_store_78 : decode cX6_store 78 = .ok (.return_, 1) := sorry
theorem dX6_addWall_0 : decode cX6_addWall 0 = .ok (.aload_n 0, 1) := sorry
theorem dX6_addWall_1 : decode cX6_addWall 1 = .ok (.getfield 30, 3) := sorry
theorem dX6_addWall_4 : decode cX6_addWall 4 = .ok (.bipush 6, 2) := sorry
theorem dX6_addWall_6 : decode cX6_addWall 6 = .ok (.if_icmp .ge 33, 3) := sorry
theorem dX6_addWall_9 : decode cX6_addWall 9 = .ok (.aload_n 0, 1) := sorry
theorem dX6_addWall_10 : decode cX6_addWall 10 = .ok (.getfield 21, 3) := sorry
theorem dX6_addWall_13 : decode cX6_addWall 13 = .ok (.aload_n 0, 1) := sorry
theorem dX6_addWall_14 : decode cX6_addWall 14 = .ok (.getfield 30, 3) := sorry
theorem dX6_addWall_17 : decode cX6_addWall 17 = .ok (.iload_n 1, 1) := sorry
theorem dX6_addWall_18 : decode cX6_addWall 18 = .ok (.iastore, 1) := sorry
theorem dX6_addWall_19 : decode cX6_addWall 19 = .ok (.aload_n 0, 1) := sorry
theorem dX6_addWall_20 : decode cX6_addWall 20 = .ok (.getfield 24, 3) := sorry
theorem dX6_addWall_23 : decode cX6_addWall 23 = .ok (.aload_n 0, 1) := sorry
theorem dX6_addWall_24 : decode cX6_addWall 24 = .ok (.getfield 30, 3) := sorry
theorem dX6_addWall_27 : decode cX6_addWall 27 = .ok (.iload_n 2, 1) := sorry
theorem dX6_addWall_28 : decode cX6_addWall 28 = .ok (.iastore, 1) := sorry
theorem dX6_addWall_29 : decode cX6_addWall 29 = .ok (.aload_n 0, 1) := sorry
theorem dX6_addWall_30 : decode cX6_addWall 30 = .ok (.dup, 1) := sorry
theorem dX6_addWall_31 : decode cX6_addWall 31 = .ok (.getfield 30, 3) := sorry
theorem dX6_addWall_34 : decode cX6_addWall 34 = .ok (.iconst 1, 1) := sorry
theorem dX6_addWall_35 : decode cX6_addWall 35 = .ok (.iadd, 1) := sorry
theorem dX6_addWall_36 : decode cX6_addWall 36 = .ok (.putfield 30, 3) := sorry
theorem dX6_addWall_39 : decode cX6_addWall 39 = .ok (.return_, 1) := sorry
set_option maxRecDepth 20000 in
theorem ggX6_fearAt_X10_within : GoodIn wsX6_fearAt wsX10_within := sorry
set_option maxRecDepth 20000 in
theorem gX6_fearAt_X10_within_n39 : GoodIn wsX6_fearAt (wsX10_within) := sorry
theorem dX6_fearAt_0 : decode cX6_fearAt 0 = .ok (.iload_n 1, 1) := sorry
theorem dX6_fearAt_1 : decode cX6_fearAt 1 = .ok (.iconst 0, 1) := sorry
theorem dX6_fearAt_2 : decode cX6_fearAt 2 = .ok (.bipush 9, 2) := sorry
theorem dX6_fearAt_4 : decode cX6_fearAt 4 = .ok (.invokestatic 39, 3) := sorry
theorem dX6_fearAt_7 : decode cX6_fearAt 7 = .ok (.ifCond .eq 12, 3) := sorry
theorem dX6_fearAt_10 : decode cX6_fearAt 10 = .ok (.aload_n 0, 1) := sorry
theorem dX6_fearAt_11 : decode cX6_fearAt 11 = .ok (.getfield 18, 3) := sorry
theorem dX6_fearAt_14 : decode cX6_fearAt 14 = .ok (.iload_n 1, 1) := sorry
theorem dX6_fearAt_15 : decode cX6_fearAt 15 = .ok (.iaload, 1) := sorry
theorem dX6_fearAt_16 : decode cX6_fearAt 16 = .ok (.goto 4, 3) := sorry
theorem dX6_fearAt_19 : decode cX6_fearAt 19 = .ok (.iconst 0, 1) := sorry
theorem dX6_fearAt_20 : decode cX6_fearAt 20 = .ok (.ireturn, 1) := sorry
theorem dX6_wanted_0 : decode cX6_wanted 0 = .ok (.aload_n 0, 1) := sorry
theorem dX6_wanted_1 : decode cX6_wanted 1 = .ok (.getfield 15, 3) := sorry
theorem dX6_wanted_4 : decode cX6_wanted 4 = .ok (.bipush 21, 2) := sorry
theorem dX6_wanted_6 : decode cX6_wanted 6 = .ok (.iaload, 1) := sorry
theorem dX6_wanted_7 : decode cX6_wanted 7 = .ok (.aload_n 0, 1) := sorry
theorem dX6_wanted_8 : decode cX6_wanted 8 = .ok (.getfield 15, 3) := sorry
theorem dX6_wanted_11 : decode cX6_wanted 11 = .ok (.bipush 22, 2) := sorry
theorem dX6_wanted_13 : decode cX6_wanted 13 = .ok (.iaload, 1) := sorry
theorem dX6_wanted_14 : decode cX6_wanted 14 = .ok (.iload_n 2, 1) := sorry
theorem dX6_wanted_15 : decode cX6_wanted 15 = .ok (.imul, 1) := sorry
theorem dX6_wanted_16 : decode cX6_wanted 16 = .ok (.iadd, 1) := sorry
theorem dX6_wanted_17 : decode cX6_wanted 17 = .ok (.aload_n 0, 1) := sorry
theorem dX6_wanted_18 : decode cX6_wanted 18 = .ok (.getfield 15, 3) := sorry
theorem dX6_wanted_21 : decode cX6_wanted 21 = .ok (.bipush 21, 2) := sorry
theorem dX6_wanted_23 : decode cX6_wanted 23 = .ok (.iaload, 1) := sorry
theorem dX6_wanted_24 : decode cX6_wanted 24 = .ok (.bipush 9, 2) := sorry
theorem dX6_wanted_26 : decode cX6_wanted 26 = .ok (.iload_n 1, 1) := sorry
theorem dX6_wanted_27 : decode cX6_wanted 27 = .ok (.isub, 1) := sorry
theorem dX6_wanted_28 : decode cX6_wanted 28 = .ok (.imul, 1) := sorry
theorem dX6_wanted_29 : decode cX6_wanted 29 = .ok (.iadd, 1) := sorry
theorem dX6_wanted_30 : decode cX6_wanted 30 = .ok (.ireturn, 1) := sorry
theorem dX7_init_0 : decode cX7_init 0 = .ok (.aload_n 0, 1) := sorry
theorem dX7_init_1 : decode cX7_init 1 = .ok (.invokespecial 3, 3) := sorry
theorem dX7_init_4 : decode cX7_init 4 = .ok (.aload_n 0, 1) := sorry
theorem dX7_init_5 : decode cX7_init 5 = .ok (.iconst 0, 1) := sorry
theorem dX7_init_6 : decode cX7_init 6 = .ok (.newarray .byte, 2) := sorry
theorem dX7_init_8 : decode cX7_init 8 = .ok (.putfield 9, 3) := sorry
theorem dX7_init_11 : decode cX7_init 11 = .ok (.aload_n 0, 1) := sorry
theorem dX7_init_12 : decode cX7_init 12 = .ok (.iconst (-1), 1) := sorry
theorem dX7_init_13 : decode cX7_init 13 = .ok (.putfield 15, 3) := sorry
theorem dX7_init_16 : decode cX7_init 16 = .ok (.aload_n 0, 1) := sorry
theorem dX7_init_17 : decode cX7_init 17 = .ok (.iconst 3, 1) := sorry
theorem dX7_init_18 : decode cX7_init 18 = .ok (.newarray .int, 2) := sorry
theorem dX7_init_20 : decode cX7_init 20 = .ok (.putfield 19, 3) := sorry
theorem dX7_init_23 : decode cX7_init 23 = .ok (.return_, 1) := sorry
set_option maxRecDepth 20000 in
theorem ggX7_read_X5_mostParts : GoodIn wsX7_read wsX5_mostParts := sorry
set_option maxRecDepth 20000 in
theorem gX7_read_X5_mostParts_u38X5 : GoodIn wsX7_read (va_wsU RX7 38 RX5 "HiredEnemy$Telling" ⟨"HiredEnemy$Telling", "mostParts", "()I"⟩ yX5_mostParts wsX5_mostParts) := sorry
set_option maxRecDepth 20000 in
theorem ggX7_read_X6_mostParts : GoodIn wsX7_read wsX6_mostParts := sorry
set_option maxRecDepth 20000 in
theorem gX7_read_X6_mostParts_u38X6 : GoodIn wsX7_read (va_wsU RX7 38 RX6 "HiredEnemy$Telling" ⟨"HiredEnemy$Telling", "mostParts", "()I"⟩ yX6_mostParts wsX6_mostParts) := sorry
set_option maxRecDepth 20000 in
theorem ggX7_read_X7_skipBlanks : GoodIn wsX7_read wsX7_skipBlanks := sorry
set_option maxRecDepth 20000 in
theorem gX7_read_X7_skipBlanks : GoodIn wsX7_read (wsV RX7 44 RX7 yX7_skipBlanks wsX7_skipBlanks) := sorry
set_option maxRecDepth 20000 in
theorem ggX7_read_X7_readPart : GoodIn wsX7_read wsX7_readPart := sorry
set_option maxRecDepth 20000 in
theorem gX7_read_X7_readPart : GoodIn wsX7_read (wsV RX7 47 RX7 yX7_readPart wsX7_readPart) := sorry
theorem dX7_read_0 : decode cX7_read 0 = .ok (.aload_n 0, 1) := sorry
theorem dX7_read_1 : decode cX7_read 1 = .ok (.aload_n 1, 1) := sorry
theorem dX7_read_2 : decode cX7_read 2 = .ok (.putfield 9, 3) := sorry
theorem dX7_read_5 : decode cX7_read 5 = .ok (.aload_n 0, 1) := sorry
theorem dX7_read_6 : decode cX7_read 6 = .ok (.iload_n 2, 1) := sorry
theorem dX7_read_7 : decode cX7_read 7 = .ok (.aload_n 1, 1) := sorry
theorem dX7_read_8 : decode cX7_read 8 = .ok (.arraylength, 1) := sorry
theorem dX7_read_9 : decode cX7_read 9 = .ok (.invokestatic 23, 3) := sorry
theorem dX7_read_12 : decode cX7_read 12 = .ok (.putfield 29, 3) := sorry
theorem dX7_read_15 : decode cX7_read 15 = .ok (.aload_n 0, 1) := sorry
theorem dX7_read_16 : decode cX7_read 16 = .ok (.iconst 0, 1) := sorry
theorem dX7_read_17 : decode cX7_read 17 = .ok (.putfield 32, 3) := sorry
theorem dX7_read_20 : decode cX7_read 20 = .ok (.aload_n 0, 1) := sorry
theorem dX7_read_21 : decode cX7_read 21 = .ok (.iconst 0, 1) := sorry
theorem dX7_read_22 : decode cX7_read 22 = .ok (.putfield 35, 3) := sorry
theorem dX7_read_25 : decode cX7_read 25 = .ok (.aload_n 0, 1) := sorry
theorem dX7_read_26 : decode cX7_read 26 = .ok (.iconst (-1), 1) := sorry
theorem dX7_read_27 : decode cX7_read 27 = .ok (.putfield 15, 3) := sorry
theorem dX7_read_30 : decode cX7_read 30 = .ok (.iconst 0, 1) := sorry
theorem dX7_read_31 : decode cX7_read 31 = .ok (.istore 4, 2) := sorry
theorem dX7_read_33 : decode cX7_read 33 = .ok (.iload 4, 2) := sorry
theorem dX7_read_35 : decode cX7_read 35 = .ok (.aload_n 3, 1) := sorry
theorem dX7_read_36 : decode cX7_read 36 = .ok (.invokevirtual 38, 3) := sorry
theorem dX7_read_39 : decode cX7_read 39 = .ok (.if_icmp .gt 37, 3) := sorry
theorem dX7_read_42 : decode cX7_read 42 = .ok (.aload_n 0, 1) := sorry
theorem dX7_read_43 : decode cX7_read 43 = .ok (.invokevirtual 44, 3) := sorry
theorem dX7_read_46 : decode cX7_read 46 = .ok (.aload_n 0, 1) := sorry
theorem dX7_read_47 : decode cX7_read 47 = .ok (.getfield 32, 3) := sorry
theorem dX7_read_50 : decode cX7_read 50 = .ok (.aload_n 0, 1) := sorry
theorem dX7_read_51 : decode cX7_read 51 = .ok (.getfield 29, 3) := sorry
theorem dX7_read_54 : decode cX7_read 54 = .ok (.if_icmp .ge 22, 3) := sorry
theorem dX7_read_57 : decode cX7_read 57 = .ok (.aload_n 0, 1) := sorry
theorem dX7_read_58 : decode cX7_read 58 = .ok (.aload_n 3, 1) := sorry
theorem dX7_read_59 : decode cX7_read 59 = .ok (.iload 4, 2) := sorry
theorem dX7_read_61 : decode cX7_read 61 = .ok (.invokevirtual 47, 3) := sorry
theorem dX7_read_64 : decode cX7_read 64 = .ok (.ifCond .ne 6, 3) := sorry
theorem dX7_read_67 : decode cX7_read 67 = .ok (.goto 9, 3) := sorry
theorem dX7_read_70 : decode cX7_read 70 = .ok (.iinc 4 1, 3) := sorry
theorem dX7_read_73 : decode cX7_read 73 = .ok (.goto (-40), 3) := sorry
theorem dX7_read_76 : decode cX7_read 76 = .ok (.aload_n 0, 1) := sorry
theorem dX7_read_77 : decode cX7_read 77 = .ok (.getfield 35, 3) := sorry
theorem dX7_read_80 : decode cX7_read 80 = .ok (.ireturn, 1) := sorry
set_option maxRecDepth 20000 in
theorem ggX7_readPart_X7_skipLetters : GoodIn wsX7_readPart wsX7_skipLetters := sorry
set_option maxRecDepth 20000 in
theorem gX7_readPart_X7_skipLetters : GoodIn wsX7_readPart (wsV RX7 51 RX7 yX7_skipLetters wsX7_skipLetters) := sorry
set_option maxRecDepth 20000 in
theorem ggX7_readPart_X5_words : GoodIn wsX7_readPart wsX5_words := sorry
set_option maxRecDepth 20000 in
theorem gX7_readPart_X5_words_u54X5 : GoodIn wsX7_readPart (va_wsU RX7 54 RX5 "HiredEnemy$Telling" ⟨"HiredEnemy$Telling", "words", "()Ljava/lang/String;"⟩ yX5_words wsX5_words) := sorry
set_option maxRecDepth 20000 in
theorem ggX7_readPart_X6_words : GoodIn wsX7_readPart wsX6_words := sorry
set_option maxRecDepth 20000 in
theorem gX7_readPart_X6_words_u54X6 : GoodIn wsX7_readPart (va_wsU RX7 54 RX6 "HiredEnemy$Telling" ⟨"HiredEnemy$Telling", "words", "()Ljava/lang/String;"⟩ yX6_words wsX6_words) := sorry
set_option maxRecDepth 20000 in
theorem ggX7_readPart_X7_kindOf : GoodIn wsX7_readPart wsX7_kindOf := sorry
set_option maxRecDepth 20000 in
theorem gX7_readPart_X7_kindOf : GoodIn wsX7_readPart (wsV RX7 58 RX7 yX7_kindOf wsX7_kindOf) := sorry
set_option maxRecDepth 20000 in
theorem ggX7_readPart_X7_fail : GoodIn wsX7_readPart wsX7_fail := sorry
set_option maxRecDepth 20000 in
theorem gX7_readPart_X7_fail : GoodIn wsX7_readPart (wsV RX7 62 RX7 yX7_fail wsX7_fail) := sorry
set_option maxRecDepth 20000 in
theorem ggX7_readPart_X5_mostParts : GoodIn wsX7_readPart wsX5_mostParts := sorry
set_option maxRecDepth 20000 in
theorem gX7_readPart_X5_mostParts_u38X5 : GoodIn wsX7_readPart (va_wsU RX7 38 RX5 "HiredEnemy$Telling" ⟨"HiredEnemy$Telling", "mostParts", "()I"⟩ yX5_mostParts wsX5_mostParts) := sorry
set_option maxRecDepth 20000 in
theorem ggX7_readPart_X6_mostParts : GoodIn wsX7_readPart wsX6_mostParts := sorry
set_option maxRecDepth 20000 in
theorem gX7_readPart_X6_mostParts_u38X6 : GoodIn wsX7_readPart (va_wsU RX7 38 RX6 "HiredEnemy$Telling" ⟨"HiredEnemy$Telling", "mostParts", "()I"⟩ yX6_mostParts wsX6_mostParts) := sorry
set_option maxRecDepth 20000 in
theorem ggX7_readPart_X5_isFull : GoodIn wsX7_readPart wsX5_isFull := sorry
set_option maxRecDepth 20000 in
theorem gX7_readPart_X5_isFull_u66X5 : GoodIn wsX7_readPart (va_wsU RX7 66 RX5 "HiredEnemy$Telling" ⟨"HiredEnemy$Telling", "isFull", "(I)Z"⟩ yX5_isFull wsX5_isFull) := sorry
set_option maxRecDepth 20000 in
theorem ggX7_readPart_X6_isFull : GoodIn wsX7_readPart wsX6_isFull := sorry
set_option maxRecDepth 20000 in
theorem gX7_readPart_X6_isFull_u66X6 : GoodIn wsX7_readPart (va_wsU RX7 66 RX6 "HiredEnemy$Telling" ⟨"HiredEnemy$Telling", "isFull", "(I)Z"⟩ yX6_isFull wsX6_isFull) := sorry
set_option maxRecDepth 20000 in
theorem ggX7_readPart_X5_numbers : GoodIn wsX7_readPart wsX5_numbers := sorry
set_option maxRecDepth 20000 in
theorem gX7_readPart_X5_numbers_u70X5 : GoodIn wsX7_readPart (va_wsU RX7 70 RX5 "HiredEnemy$Telling" ⟨"HiredEnemy$Telling", "numbers", "(I)I"⟩ yX5_numbers wsX5_numbers) := sorry
set_option maxRecDepth 20000 in
theorem ggX7_readPart_X6_numbers : GoodIn wsX7_readPart wsX6_numbers := sorry
set_option maxRecDepth 20000 in
theorem gX7_readPart_X6_numbers_u70X6 : GoodIn wsX7_readPart (va_wsU RX7 70 RX6 "HiredEnemy$Telling" ⟨"HiredEnemy$Telling", "numbers", "(I)I"⟩ yX6_numbers wsX6_numbers) := sorry
set_option maxRecDepth 20000 in
theorem ggX7_readPart_X5_low : GoodIn wsX7_readPart wsX5_low := sorry
set_option maxRecDepth 20000 in
theorem gX7_readPart_X5_low_u73X5 : GoodIn wsX7_readPart (va_wsU RX7 73 RX5 "HiredEnemy$Telling" ⟨"HiredEnemy$Telling", "low", "(II)I"⟩ yX5_low wsX5_low) := sorry
set_option maxRecDepth 20000 in
theorem ggX7_readPart_X6_low : GoodIn wsX7_readPart wsX6_low := sorry
set_option maxRecDepth 20000 in
theorem gX7_readPart_X6_low_u73X6 : GoodIn wsX7_readPart (va_wsU RX7 73 RX6 "HiredEnemy$Telling" ⟨"HiredEnemy$Telling", "low", "(II)I"⟩ yX6_low wsX6_low) := sorry
set_option maxRecDepth 20000 in
theorem ggX7_readPart_X5_high : GoodIn wsX7_readPart wsX5_high := sorry
set_option maxRecDepth 20000 in
theorem gX7_readPart_X5_high_u76X5 : GoodIn wsX7_readPart (va_wsU RX7 76 RX5 "HiredEnemy$Telling" ⟨"HiredEnemy$Telling", "high", "(II)I"⟩ yX5_high wsX5_high) := sorry
set_option maxRecDepth 20000 in
theorem ggX7_readPart_X6_high : GoodIn wsX7_readPart wsX6_high := sorry
set_option maxRecDepth 20000 in
theorem gX7_readPart_X6_high_u76X6 : GoodIn wsX7_readPart (va_wsU RX7 76 RX6 "HiredEnemy$Telling" ⟨"HiredEnemy$Telling", "high", "(II)I"⟩ yX6_high wsX6_high) := sorry
set_option maxRecDepth 20000 in
theorem ggX7_readPart_X7_readNumber : GoodIn wsX7_readPart wsX7_readNumber := sorry
set_option maxRecDepth 20000 in
theorem gX7_readPart_X7_readNumber : GoodIn wsX7_readPart (wsV RX7 79 RX7 yX7_readNumber wsX7_readNumber) := sorry
set_option maxRecDepth 20000 in
theorem ggX7_readPart_X7_skipBlanks : GoodIn wsX7_readPart wsX7_skipBlanks := sorry
set_option maxRecDepth 20000 in
theorem gX7_readPart_X7_skipBlanks : GoodIn wsX7_readPart (wsV RX7 44 RX7 yX7_skipBlanks wsX7_skipBlanks) := sorry
set_option maxRecDepth 20000 in
theorem ggX7_readPart_X5_store : GoodIn wsX7_readPart wsX5_store := sorry
set_option maxRecDepth 20000 in
theorem gX7_readPart_X5_store_u83X5 : GoodIn wsX7_readPart (va_wsU RX7 83 RX5 "HiredEnemy$Telling" ⟨"HiredEnemy$Telling", "store", "(I[I)V"⟩ yX5_store wsX5_store) := sorry
set_option maxRecDepth 20000 in
theorem ggX7_readPart_X6_store : GoodIn wsX7_readPart wsX6_store := sorry
set_option maxRecDepth 20000 in
theorem gX7_readPart_X6_store_u83X6 : GoodIn wsX7_readPart (va_wsU RX7 83 RX6 "HiredEnemy$Telling" ⟨"HiredEnemy$Telling", "store", "(I[I)V"⟩ yX6_store wsX6_store) := sorry
theorem dX7_readPart_0 : decode cX7_readPart 0 = .ok (.aload_n 0, 1) := sorry
theorem dX7_readPart_1 : decode cX7_readPart 1 = .ok (.getfield 32, 3) := sorry
theorem dX7_readPart_4 : decode cX7_readPart 4 = .ok (.istore_n 3, 1) := sorry
theorem dX7_readPart_5 : decode cX7_readPart 5 = .ok (.aload_n 0, 1) := sorry
theorem dX7_readPart_6 : decode cX7_readPart 6 = .ok (.invokevirtual 51, 3) := sorry
theorem dX7_readPart_9 : decode cX7_readPart 9 = .ok (.aload_n 0, 1) := sorry
theorem dX7_readPart_10 : decode cX7_readPart 10 = .ok (.aload_n 1, 1) := sorry
theorem dX7_readPart_11 : decode cX7_readPart 11 = .ok (.invokevirtual 54, 3) := sorry
theorem dX7_readPart_14 : decode cX7_readPart 14 = .ok (.iload_n 3, 1) := sorry
theorem dX7_readPart_15 : decode cX7_readPart 15 = .ok (.invokevirtual 58, 3) := sorry
theorem dX7_readPart_18 : decode cX7_readPart 18 = .ok (.istore 4, 2) := sorry
theorem dX7_readPart_20 : decode cX7_readPart 20 = .ok (.iload 4, 2) := sorry
theorem dX7_readPart_22 : decode cX7_readPart 22 = .ok (.iconst (-1), 1) := sorry
theorem dX7_readPart_23 : decode cX7_readPart 23 = .ok (.if_icmp .ne 10, 3) := sorry
theorem dX7_readPart_26 : decode cX7_readPart 26 = .ok (.aload_n 0, 1) := sorry
theorem dX7_readPart_27 : decode cX7_readPart 27 = .ok (.iconst 1, 1) := sorry
theorem dX7_readPart_28 : decode cX7_readPart 28 = .ok (.iload_n 3, 1) := sorry
theorem dX7_readPart_29 : decode cX7_readPart 29 = .ok (.invokevirtual 62, 3) := sorry
theorem dX7_readPart_32 : decode cX7_readPart 32 = .ok (.ireturn, 1) := sorry
theorem dX7_readPart_33 : decode cX7_readPart 33 = .ok (.iload_n 2, 1) := sorry
theorem dX7_readPart_34 : decode cX7_readPart 34 = .ok (.aload_n 1, 1) := sorry
theorem dX7_readPart_35 : decode cX7_readPart 35 = .ok (.invokevirtual 38, 3) := sorry
theorem dX7_readPart_38 : decode cX7_readPart 38 = .ok (.if_icmp .ge 12, 3) := sorry
theorem dX7_readPart_41 : decode cX7_readPart 41 = .ok (.aload_n 1, 1) := sorry
theorem dX7_readPart_42 : decode cX7_readPart 42 = .ok (.iload 4, 2) := sorry
theorem dX7_readPart_44 : decode cX7_readPart 44 = .ok (.invokevirtual 66, 3) := sorry
theorem dX7_readPart_47 : decode cX7_readPart 47 = .ok (.ifCond .eq 10, 3) := sorry
theorem dX7_readPart_50 : decode cX7_readPart 50 = .ok (.aload_n 0, 1) := sorry
theorem dX7_readPart_51 : decode cX7_readPart 51 = .ok (.iconst 3, 1) := sorry
theorem dX7_readPart_52 : decode cX7_readPart 52 = .ok (.iload_n 3, 1) := sorry
theorem dX7_readPart_53 : decode cX7_readPart 53 = .ok (.invokevirtual 62, 3) := sorry
theorem dX7_readPart_56 : decode cX7_readPart 56 = .ok (.ireturn, 1) := sorry
theorem dX7_readPart_57 : decode cX7_readPart 57 = .ok (.aload_n 1, 1) := sorry
theorem dX7_readPart_58 : decode cX7_readPart 58 = .ok (.iload 4, 2) := sorry
theorem dX7_readPart_60 : decode cX7_readPart 60 = .ok (.invokevirtual 70, 3) := sorry
theorem dX7_readPart_63 : decode cX7_readPart 63 = .ok (.aload_n 0, 1) := sorry
theorem dX7_readPart_64 : decode cX7_readPart 64 = .ok (.getfield 19, 3) := sorry
theorem dX7_readPart_67 : decode cX7_readPart 67 = .ok (.arraylength, 1) := sorry
theorem dX7_readPart_68 : decode cX7_readPart 68 = .ok (.invokestatic 23, 3) := sorry
theorem dX7_readPart_71 : decode cX7_readPart 71 = .ok (.istore 5, 2) := sorry
theorem dX7_readPart_73 : decode cX7_readPart 73 = .ok (.iconst 0, 1) := sorry
theorem dX7_readPart_74 : decode cX7_readPart 74 = .ok (.istore 6, 2) := sorry
theorem dX7_readPart_76 : decode cX7_readPart 76 = .ok (.iload 6, 2) := sorry
theorem dX7_readPart_78 : decode cX7_readPart 78 = .ok (.iload 5, 2) := sorry
theorem dX7_readPart_80 : decode cX7_readPart 80 = .ok (.if_icmp .ge 36, 3) := sorry
theorem dX7_readPart_83 : decode cX7_readPart 83 = .ok (.aload_n 0, 1) := sorry
theorem dX7_readPart_84 : decode cX7_readPart 84 = .ok (.iload 6, 2) := sorry
theorem dX7_readPart_86 : decode cX7_readPart 86 = .ok (.aload_n 1, 1) := sorry
theorem dX7_readPart_87 : decode cX7_readPart 87 = .ok (.iload 4, 2) := sorry
theorem dX7_readPart_89 : decode cX7_readPart 89 = .ok (.iload 6, 2) := sorry
theorem dX7_readPart_91 : decode cX7_readPart 91 = .ok (.invokevirtual 73, 3) := sorry
theorem dX7_readPart_94 : decode cX7_readPart 94 = .ok (.aload_n 1, 1) := sorry
theorem dX7_readPart_95 : decode cX7_readPart 95 = .ok (.iload 4, 2) := sorry
theorem dX7_readPart_97 : decode cX7_readPart 97 = .ok (.iload 6, 2) := sorry
theorem dX7_readPart_99 : decode cX7_readPart 99 = .ok (.invokevirtual 76, 3) := sorry
theorem dX7_readPart_102 : decode cX7_readPart 102 = .ok (.invokevirtual 79, 3) := sorry
theorem dX7_readPart_105 : decode cX7_readPart 105 = .ok (.ifCond .ne 5, 3) := sorry
theorem dX7_readPart_108 : decode cX7_readPart 108 = .ok (.iconst 0, 1) := sorry
theorem dX7_readPart_109 : decode cX7_readPart 109 = .ok (.ireturn, 1) := sorry
theorem dX7_readPart_110 : decode cX7_readPart 110 = .ok (.iinc 6 1, 3) := sorry
theorem dX7_readPart_113 : decode cX7_readPart 113 = .ok (.goto (-37), 3) := sorry
theorem dX7_readPart_116 : decode cX7_readPart 116 = .ok (.aload_n 0, 1) := sorry
theorem dX7_readPart_117 : decode cX7_readPart 117 = .ok (.invokevirtual 44, 3) := sorry
theorem dX7_readPart_120 : decode cX7_readPart 120 = .ok (.aload_n 0, 1) := sorry
theorem dX7_readPart_121 : decode cX7_readPart 121 = .ok (.getfield 32, 3) := sorry
theorem dX7_readPart_124 : decode cX7_readPart 124 = .ok (.aload_n 0, 1) := sorry
theorem dX7_readPart_125 : decode cX7_readPart 125 = .ok (.getfield 29, 3) := sorry
theorem dX7_readPart_128 : decode cX7_readPart 128 = .ok (.if_icmp .ge 17, 3) := sorry
theorem dX7_readPart_131 : decode cX7_readPart 131 = .ok (.aload_n 0, 1) := sorry
theorem dX7_readPart_132 : decode cX7_readPart 132 = .ok (.getfield 9, 3) := sorry
theorem dX7_readPart_135 : decode cX7_readPart 135 = .ok (.aload_n 0, 1) := sorry
theorem dX7_readPart_136 : decode cX7_readPart 136 = .ok (.getfield 32, 3) := sorry
theorem dX7_readPart_139 : decode cX7_readPart 139 = .ok (.baload, 1) := sorry
theorem dX7_readPart_140 : decode cX7_readPart 140 = .ok (.bipush 59, 2) := sorry
theorem dX7_readPart_142 : decode cX7_readPart 142 = .ok (.if_icmp .eq 13, 3) := sorry
theorem dX7_readPart_145 : decode cX7_readPart 145 = .ok (.aload_n 0, 1) := sorry
theorem dX7_readPart_146 : decode cX7_readPart 146 = .ok (.iconst 1, 1) := sorry
theorem dX7_readPart_147 : decode cX7_readPart 147 = .ok (.aload_n 0, 1) := sorry
theorem dX7_readPart_148 : decode cX7_readPart 148 = .ok (.getfield 32, 3) := sorry
theorem dX7_readPart_151 : decode cX7_readPart 151 = .ok (.invokevirtual 62, 3) := sorry
theorem dX7_readPart_154 : decode cX7_readPart 154 = .ok (.ireturn, 1) := sorry
theorem dX7_readPart_155 : decode cX7_readPart 155 = .ok (.aload_n 0, 1) := sorry
theorem dX7_readPart_156 : decode cX7_readPart 156 = .ok (.dup, 1) := sorry
theorem dX7_readPart_157 : decode cX7_readPart 157 = .ok (.getfield 32, 3) := sorry
theorem dX7_readPart_160 : decode cX7_readPart 160 = .ok (.iconst 1, 1) := sorry
theorem dX7_readPart_161 : decode cX7_readPart 161 = .ok (.iadd, 1) := sorry
theorem dX7_readPart_162 : decode cX7_readPart 162 = .ok (.putfield 32, 3) := sorry
theorem dX7_readPart_165 : decode cX7_readPart 165 = .ok (.aload_n 1, 1) := sorry
theorem dX7_readPart_166 : decode cX7_readPart 166 = .ok (.iload 4, 2) := sorry
theorem dX7_readPart_168 : decode cX7_readPart 168 = .ok (.aload_n 0, 1) := sorry
theorem dX7_readPart_169 : decode cX7_readPart 169 = .ok (.getfield 19, 3) := sorry
theorem dX7_readPart_172 : decode cX7_readPart 172 = .ok (.invokevirtual 83, 3) := sorry
theorem dX7_readPart_175 : decode cX7_readPart 175 = .ok (.iconst 1, 1) := sorry
theorem dX7_readPart_176 : decode cX7_readPart 176 = .ok (.ireturn, 1) := sorry
set_option maxRecDepth 20000 in
theorem ggX7_readNumber_X7_skipBlanks : GoodIn wsX7_readNumber wsX7_skipBlanks := sorry
set_option maxRecDepth 20000 in
theorem gX7_readNumber_X7_skipBlanks : GoodIn wsX7_readNumber (wsV RX7 44 RX7 yX7_skipBlanks wsX7_skipBlanks) := sorry
set_option maxRecDepth 20000 in
theorem ggX7_readNumber_X7_fail : GoodIn wsX7_readNumber wsX7_fail := sorry
set_option maxRecDepth 20000 in
theorem gX7_readNumber_X7_fail : GoodIn wsX7_readNumber (wsV RX7 62 RX7 yX7_fail wsX7_fail) := sorry
set_option maxRecDepth 20000 in
theorem ggX7_readNumber_X10_within : GoodIn wsX7_readNumber wsX10_within := sorry
set_option maxRecDepth 20000 in
theorem gX7_readNumber_X10_within_n88 : GoodIn wsX7_readNumber (wsX10_within) := sorry
theorem dX7_readNumber_0 : decode cX7_readNumber 0 = .ok (.aload_n 0, 1) := sorry
theorem dX7_readNumber_1 : decode cX7_readNumber 1 = .ok (.invokevirtual 44, 3) := sorry
theorem dX7_readNumber_4 : decode cX7_readNumber 4 = .ok (.aload_n 0, 1) := sorry
theorem dX7_readNumber_5 : decode cX7_readNumber 5 = .ok (.getfield 32, 3) := sorry
theorem dX7_readNumber_8 : decode cX7_readNumber 8 = .ok (.istore 4, 2) := sorry
theorem dX7_readNumber_10 : decode cX7_readNumber 10 = .ok (.iconst 0, 1) := sorry
theorem dX7_readNumber_11 : decode cX7_readNumber 11 = .ok (.istore 5, 2) := sorry
theorem dX7_readNumber_13 : decode cX7_readNumber 13 = .ok (.aload_n 0, 1) := sorry
theorem dX7_readNumber_14 : decode cX7_readNumber 14 = .ok (.getfield 32, 3) := sorry
theorem dX7_readNumber_17 : decode cX7_readNumber 17 = .ok (.aload_n 0, 1) := sorry
theorem dX7_readNumber_18 : decode cX7_readNumber 18 = .ok (.getfield 29, 3) := sorry
theorem dX7_readNumber_21 : decode cX7_readNumber 21 = .ok (.if_icmp .ge 69, 3) := sorry
theorem dX7_readNumber_24 : decode cX7_readNumber 24 = .ok (.aload_n 0, 1) := sorry
theorem dX7_readNumber_25 : decode cX7_readNumber 25 = .ok (.getfield 9, 3) := sorry
theorem dX7_readNumber_28 : decode cX7_readNumber 28 = .ok (.aload_n 0, 1) := sorry
theorem dX7_readNumber_29 : decode cX7_readNumber 29 = .ok (.getfield 32, 3) := sorry
theorem dX7_readNumber_32 : decode cX7_readNumber 32 = .ok (.baload, 1) := sorry
theorem dX7_readNumber_33 : decode cX7_readNumber 33 = .ok (.bipush 48, 2) := sorry
theorem dX7_readNumber_35 : decode cX7_readNumber 35 = .ok (.if_icmp .lt 55, 3) := sorry
theorem dX7_readNumber_38 : decode cX7_readNumber 38 = .ok (.aload_n 0, 1) := sorry
theorem dX7_readNumber_39 : decode cX7_readNumber 39 = .ok (.getfield 9, 3) := sorry
theorem dX7_readNumber_42 : decode cX7_readNumber 42 = .ok (.aload_n 0, 1) := sorry
theorem dX7_readNumber_43 : decode cX7_readNumber 43 = .ok (.getfield 32, 3) := sorry
theorem dX7_readNumber_46 : decode cX7_readNumber 46 = .ok (.baload, 1) := sorry
theorem dX7_readNumber_47 : decode cX7_readNumber 47 = .ok (.bipush 57, 2) := sorry
theorem dX7_readNumber_49 : decode cX7_readNumber 49 = .ok (.if_icmp .gt 41, 3) := sorry
theorem dX7_readNumber_52 : decode cX7_readNumber 52 = .ok (.iload 5, 2) := sorry
theorem dX7_readNumber_54 : decode cX7_readNumber 54 = .ok (.bipush 10, 2) := sorry
theorem dX7_readNumber_56 : decode cX7_readNumber 56 = .ok (.imul, 1) := sorry
theorem dX7_readNumber_57 : decode cX7_readNumber 57 = .ok (.aload_n 0, 1) := sorry
theorem dX7_readNumber_58 : decode cX7_readNumber 58 = .ok (.getfield 9, 3) := sorry
theorem dX7_readNumber_61 : decode cX7_readNumber 61 = .ok (.aload_n 0, 1) := sorry
theorem dX7_readNumber_62 : decode cX7_readNumber 62 = .ok (.getfield 32, 3) := sorry
theorem dX7_readNumber_65 : decode cX7_readNumber 65 = .ok (.baload, 1) := sorry
theorem dX7_readNumber_66 : decode cX7_readNumber 66 = .ok (.iadd, 1) := sorry
theorem dX7_readNumber_67 : decode cX7_readNumber 67 = .ok (.bipush 48, 2) := sorry
theorem dX7_readNumber_69 : decode cX7_readNumber 69 = .ok (.isub, 1) := sorry
theorem dX7_readNumber_70 : decode cX7_readNumber 70 = .ok (.ldc 87, 2) := sorry
theorem dX7_readNumber_72 : decode cX7_readNumber 72 = .ok (.invokestatic 23, 3) := sorry
theorem dX7_readNumber_75 : decode cX7_readNumber 75 = .ok (.istore 5, 2) := sorry
theorem dX7_readNumber_77 : decode cX7_readNumber 77 = .ok (.aload_n 0, 1) := sorry
theorem dX7_readNumber_78 : decode cX7_readNumber 78 = .ok (.dup, 1) := sorry
theorem dX7_readNumber_79 : decode cX7_readNumber 79 = .ok (.getfield 32, 3) := sorry
theorem dX7_readNumber_82 : decode cX7_readNumber 82 = .ok (.iconst 1, 1) := sorry
theorem dX7_readNumber_83 : decode cX7_readNumber 83 = .ok (.iadd, 1) := sorry
theorem dX7_readNumber_84 : decode cX7_readNumber 84 = .ok (.putfield 32, 3) := sorry
theorem dX7_readNumber_87 : decode cX7_readNumber 87 = .ok (.goto (-74), 3) := sorry
theorem dX7_readNumber_90 : decode cX7_readNumber 90 = .ok (.aload_n 0, 1) := sorry
theorem dX7_readNumber_91 : decode cX7_readNumber 91 = .ok (.getfield 32, 3) := sorry
theorem dX7_readNumber_94 : decode cX7_readNumber 94 = .ok (.iload 4, 2) := sorry
theorem dX7_readNumber_96 : decode cX7_readNumber 96 = .ok (.if_icmp .ne 11, 3) := sorry
theorem dX7_readNumber_99 : decode cX7_readNumber 99 = .ok (.aload_n 0, 1) := sorry
theorem dX7_readNumber_100 : decode cX7_readNumber 100 = .ok (.iconst 1, 1) := sorry
theorem dX7_readNumber_101 : decode cX7_readNumber 101 = .ok (.iload 4, 2) := sorry
theorem dX7_readNumber_103 : decode cX7_readNumber 103 = .ok (.invokevirtual 62, 3) := sorry
theorem dX7_readNumber_106 : decode cX7_readNumber 106 = .ok (.ireturn, 1) := sorry
theorem dX7_readNumber_107 : decode cX7_readNumber 107 = .ok (.iload 5, 2) := sorry
theorem dX7_readNumber_109 : decode cX7_readNumber 109 = .ok (.iload_n 2, 1) := sorry
theorem dX7_readNumber_110 : decode cX7_readNumber 110 = .ok (.iload_n 3, 1) := sorry
theorem dX7_readNumber_111 : decode cX7_readNumber 111 = .ok (.invokestatic 88, 3) := sorry
theorem dX7_readNumber_114 : decode cX7_readNumber 114 = .ok (.ifCond .ne 11, 3) := sorry
theorem dX7_readNumber_117 : decode cX7_readNumber 117 = .ok (.aload_n 0, 1) := sorry
theorem dX7_readNumber_118 : decode cX7_readNumber 118 = .ok (.iconst 2, 1) := sorry
theorem dX7_readNumber_119 : decode cX7_readNumber 119 = .ok (.iload 4, 2) := sorry
theorem dX7_readNumber_121 : decode cX7_readNumber 121 = .ok (.invokevirtual 62, 3) := sorry
theorem dX7_readNumber_124 : decode cX7_readNumber 124 = .ok (.ireturn, 1) := sorry
theorem dX7_readNumber_125 : decode cX7_readNumber 125 = .ok (.aload_n 0, 1) := sorry
theorem dX7_readNumber_126 : decode cX7_readNumber 126 = .ok (.getfield 19, 3) := sorry
theorem dX7_readNumber_129 : decode cX7_readNumber 129 = .ok (.iload_n 1, 1) := sorry
theorem dX7_readNumber_130 : decode cX7_readNumber 130 = .ok (.iload 5, 2) := sorry
theorem dX7_readNumber_132 : decode cX7_readNumber 132 = .ok (.iastore, 1) := sorry
theorem dX7_readNumber_133 : decode cX7_readNumber 133 = .ok (.iconst 1, 1) := sorry
theorem dX7_readNumber_134 : decode cX7_readNumber 134 = .ok (.ireturn, 1) := sorry
theorem dX7_fail_0 : decode cX7_fail 0 = .ok (.aload_n 0, 1) := sorry
theorem dX7_fail_1 : decode cX7_fail 1 = .ok (.iload_n 1, 1) := sorry
theorem dX7_fail_2 : decode cX7_fail 2 = .ok (.putfield 35, 3) := sorry
theorem dX7_fail_5 : decode cX7_fail 5 = .ok (.aload_n 0, 1) := sorry
theorem dX7_fail_6 : decode cX7_fail 6 = .ok (.iload_n 2, 1) := sorry
theorem dX7_fail_7 : decode cX7_fail 7 = .ok (.putfield 15, 3) := sorry
theorem dX7_fail_10 : decode cX7_fail 10 = .ok (.iconst 0, 1) := sorry
theorem dX7_fail_11 : decode cX7_fail 11 = .ok (.ireturn, 1) := sorry
theorem dX7_skipBlanks_0 : decode cX7_skipBlanks 0 = .ok (.aload_n 0, 1) := sorry
theorem dX7_skipBlanks_1 : decode cX7_skipBlanks 1 = .ok (.getfield 32, 3) := sorry
theorem dX7_skipBlanks_4 : decode cX7_skipBlanks 4 = .ok (.aload_n 0, 1) := sorry
theorem dX7_skipBlanks_5 : decode cX7_skipBlanks 5 = .ok (.getfield 29, 3) := sorry
theorem dX7_skipBlanks_8 : decode cX7_skipBlanks 8 = .ok (.if_icmp .ge 30, 3) := sorry
theorem dX7_skipBlanks_11 : decode cX7_skipBlanks 11 = .ok (.aload_n 0, 1) := sorry
theorem dX7_skipBlanks_12 : decode cX7_skipBlanks 12 = .ok (.getfield 9, 3) := sorry
theorem dX7_skipBlanks_15 : decode cX7_skipBlanks 15 = .ok (.aload_n 0, 1) := sorry
theorem dX7_skipBlanks_16 : decode cX7_skipBlanks 16 = .ok (.getfield 32, 3) := sorry
theorem dX7_skipBlanks_19 : decode cX7_skipBlanks 19 = .ok (.baload, 1) := sorry
theorem dX7_skipBlanks_20 : decode cX7_skipBlanks 20 = .ok (.bipush 32, 2) := sorry
theorem dX7_skipBlanks_22 : decode cX7_skipBlanks 22 = .ok (.if_icmp .ne 16, 3) := sorry
theorem dX7_skipBlanks_25 : decode cX7_skipBlanks 25 = .ok (.aload_n 0, 1) := sorry
theorem dX7_skipBlanks_26 : decode cX7_skipBlanks 26 = .ok (.dup, 1) := sorry
theorem dX7_skipBlanks_27 : decode cX7_skipBlanks 27 = .ok (.getfield 32, 3) := sorry
theorem dX7_skipBlanks_30 : decode cX7_skipBlanks 30 = .ok (.iconst 1, 1) := sorry
theorem dX7_skipBlanks_31 : decode cX7_skipBlanks 31 = .ok (.iadd, 1) := sorry
theorem dX7_skipBlanks_32 : decode cX7_skipBlanks 32 = .ok (.putfield 32, 3) := sorry
theorem dX7_skipBlanks_35 : decode cX7_skipBlanks 35 = .ok (.goto (-35), 3) := sorry
theorem dX7_skipBlanks_38 : decode cX7_skipBlanks 38 = .ok (.return_, 1) := sorry
theorem dX7_skipLetters_0 : decode cX7_skipLetters 0 = .ok (.aload_n 0, 1) := sorry
theorem dX7_skipLetters_1 : decode cX7_skipLetters 1 = .ok (.getfield 32, 3) := sorry
theorem dX7_skipLetters_4 : decode cX7_skipLetters 4 = .ok (.aload_n 0, 1) := sorry
theorem dX7_skipLetters_5 : decode cX7_skipLetters 5 = .ok (.getfield 29, 3) := sorry
theorem dX7_skipLetters_8 : decode cX7_skipLetters 8 = .ok (.if_icmp .ge 44, 3) := sorry
theorem dX7_skipLetters_11 : decode cX7_skipLetters 11 = .ok (.aload_n 0, 1) := sorry
theorem dX7_skipLetters_12 : decode cX7_skipLetters 12 = .ok (.getfield 9, 3) := sorry
theorem dX7_skipLetters_15 : decode cX7_skipLetters 15 = .ok (.aload_n 0, 1) := sorry
theorem dX7_skipLetters_16 : decode cX7_skipLetters 16 = .ok (.getfield 32, 3) := sorry
theorem dX7_skipLetters_19 : decode cX7_skipLetters 19 = .ok (.baload, 1) := sorry
theorem dX7_skipLetters_20 : decode cX7_skipLetters 20 = .ok (.bipush 97, 2) := sorry
theorem dX7_skipLetters_22 : decode cX7_skipLetters 22 = .ok (.if_icmp .lt 30, 3) := sorry
theorem dX7_skipLetters_25 : decode cX7_skipLetters 25 = .ok (.aload_n 0, 1) := sorry
theorem dX7_skipLetters_26 : decode cX7_skipLetters 26 = .ok (.getfield 9, 3) := sorry
theorem dX7_skipLetters_29 : decode cX7_skipLetters 29 = .ok (.aload_n 0, 1) := sorry
theorem dX7_skipLetters_30 : decode cX7_skipLetters 30 = .ok (.getfield 32, 3) := sorry
theorem dX7_skipLetters_33 : decode cX7_skipLetters 33 = .ok (.baload, 1) := sorry
theorem dX7_skipLetters_34 : decode cX7_skipLetters 34 = .ok (.bipush 122, 2) := sorry
theorem dX7_skipLetters_36 : decode cX7_skipLetters 36 = .ok (.if_icmp .gt 16, 3) := sorry
theorem dX7_skipLetters_39 : decode cX7_skipLetters 39 = .ok (.aload_n 0, 1) := sorry
theorem dX7_skipLetters_40 : decode cX7_skipLetters 40 = .ok (.dup, 1) := sorry
theorem dX7_skipLetters_41 : decode cX7_skipLetters 41 = .ok (.getfield 32, 3) := sorry
theorem dX7_skipLetters_44 : decode cX7_skipLetters 44 = .ok (.iconst 1, 1) := sorry
theorem dX7_skipLetters_45 : decode cX7_skipLetters 45 = .ok (.iadd, 1) := sorry
theorem dX7_skipLetters_46 : decode cX7_skipLetters 46 = .ok (.putfield 32, 3) := sorry
theorem dX7_skipLetters_49 : decode cX7_skipLetters 49 = .ok (.goto (-49), 3) := sorry
theorem dX7_skipLetters_52 : decode cX7_skipLetters 52 = .ok (.return_, 1) := sorry
set_option maxRecDepth 20000 in
theorem ggX7_kindOf_J0_length_8abf5 : GoodIn wsX7_kindOf wsJ0_length_8abf5 := sorry
set_option maxRecDepth 20000 in
theorem gX7_kindOf_J0_length_8abf5 : GoodIn wsX7_kindOf (wsV RX7 91 RJ0 yJ0_length_8abf5 wsJ0_length_8abf5) := sorry
set_option maxRecDepth 20000 in
theorem ggX7_kindOf_J0_charAt_5068e : GoodIn wsX7_kindOf wsJ0_charAt_5068e := sorry
set_option maxRecDepth 20000 in
theorem gX7_kindOf_J0_charAt_5068e : GoodIn wsX7_kindOf (wsV RX7 95 RJ0 yJ0_charAt_5068e wsJ0_charAt_5068e) := sorry
set_option maxRecDepth 20000 in
theorem ggX7_kindOf_X7_isSame : GoodIn wsX7_kindOf wsX7_isSame := sorry
set_option maxRecDepth 20000 in
theorem gX7_kindOf_X7_isSame : GoodIn wsX7_kindOf (wsV RX7 99 RX7 yX7_isSame wsX7_isSame) := sorry
theorem dX7_kindOf_0 : decode cX7_kindOf 0 = .ok (.iconst 0, 1) := sorry
theorem dX7_kindOf_1 : decode cX7_kindOf 1 = .ok (.istore_n 3, 1) := sorry
theorem dX7_kindOf_2 : decode cX7_kindOf 2 = .ok (.iconst 0, 1) := sorry
theorem dX7_kindOf_3 : decode cX7_kindOf 3 = .ok (.istore 4, 2) := sorry
theorem dX7_kindOf_5 : decode cX7_kindOf 5 = .ok (.iconst 0, 1) := sorry
theorem dX7_kindOf_6 : decode cX7_kindOf 6 = .ok (.istore 5, 2) := sorry
theorem dX7_kindOf_8 : decode cX7_kindOf 8 = .ok (.iload 5, 2) := sorry
theorem dX7_kindOf_10 : decode cX7_kindOf 10 = .ok (.aload_n 1, 1) := sorry
theorem dX7_kindOf_11 : decode cX7_kindOf 11 = .ok (.invokevirtual 91, 3) := sorry
theorem dX7_kindOf_14 : decode cX7_kindOf 14 = .ok (.if_icmp .gt 53, 3) := sorry
theorem dX7_kindOf_17 : decode cX7_kindOf 17 = .ok (.iload 5, 2) := sorry
theorem dX7_kindOf_19 : decode cX7_kindOf 19 = .ok (.aload_n 1, 1) := sorry
theorem dX7_kindOf_20 : decode cX7_kindOf 20 = .ok (.invokevirtual 91, 3) := sorry
theorem dX7_kindOf_23 : decode cX7_kindOf 23 = .ok (.if_icmp .eq 14, 3) := sorry
theorem dX7_kindOf_26 : decode cX7_kindOf 26 = .ok (.aload_n 1, 1) := sorry
theorem dX7_kindOf_27 : decode cX7_kindOf 27 = .ok (.iload 5, 2) := sorry
theorem dX7_kindOf_29 : decode cX7_kindOf 29 = .ok (.invokevirtual 95, 3) := sorry
theorem dX7_kindOf_32 : decode cX7_kindOf 32 = .ok (.bipush 32, 2) := sorry
theorem dX7_kindOf_34 : decode cX7_kindOf 34 = .ok (.if_icmp .ne 27, 3) := sorry
theorem dX7_kindOf_37 : decode cX7_kindOf 37 = .ok (.aload_n 0, 1) := sorry
theorem dX7_kindOf_38 : decode cX7_kindOf 38 = .ok (.aload_n 1, 1) := sorry
theorem dX7_kindOf_39 : decode cX7_kindOf 39 = .ok (.iload 4, 2) := sorry
theorem dX7_kindOf_41 : decode cX7_kindOf 41 = .ok (.iload 5, 2) := sorry
theorem dX7_kindOf_43 : decode cX7_kindOf 43 = .ok (.iload_n 2, 1) := sorry
theorem dX7_kindOf_44 : decode cX7_kindOf 44 = .ok (.invokevirtual 99, 3) := sorry
theorem dX7_kindOf_47 : decode cX7_kindOf 47 = .ok (.ifCond .eq 5, 3) := sorry
theorem dX7_kindOf_50 : decode cX7_kindOf 50 = .ok (.iload_n 3, 1) := sorry
theorem dX7_kindOf_51 : decode cX7_kindOf 51 = .ok (.ireturn, 1) := sorry
theorem dX7_kindOf_52 : decode cX7_kindOf 52 = .ok (.iinc 3 1, 3) := sorry
theorem dX7_kindOf_55 : decode cX7_kindOf 55 = .ok (.iload 5, 2) := sorry
theorem dX7_kindOf_57 : decode cX7_kindOf 57 = .ok (.iconst 1, 1) := sorry
theorem dX7_kindOf_58 : decode cX7_kindOf 58 = .ok (.iadd, 1) := sorry
theorem dX7_kindOf_59 : decode cX7_kindOf 59 = .ok (.istore 4, 2) := sorry
theorem dX7_kindOf_61 : decode cX7_kindOf 61 = .ok (.iinc 5 1, 3) := sorry
theorem dX7_kindOf_64 : decode cX7_kindOf 64 = .ok (.goto (-56), 3) := sorry
theorem dX7_kindOf_67 : decode cX7_kindOf 67 = .ok (.iconst (-1), 1) := sorry
theorem dX7_kindOf_68 : decode cX7_kindOf 68 = .ok (.ireturn, 1) := sorry
set_option maxRecDepth 20000 in
theorem ggX7_isSame_J0_charAt_5068e : GoodIn wsX7_isSame wsJ0_charAt_5068e := sorry
set_option maxRecDepth 20000 in
theorem gX7_isSame_J0_charAt_5068e : GoodIn wsX7_isSame (wsV RX7 95 RJ0 yJ0_charAt_5068e wsJ0_charAt_5068e) := sorry
theorem dX7_isSame_0 : decode cX7_isSame 0 = .ok (.iload_n 3, 1) := sorry
theorem dX7_isSame_1 : decode cX7_isSame 1 = .ok (.iload_n 2, 1) := sorry
theorem dX7_isSame_2 : decode cX7_isSame 2 = .ok (.isub, 1) := sorry
theorem dX7_isSame_3 : decode cX7_isSame 3 = .ok (.aload_n 0, 1) := sorry
theorem dX7_isSame_4 : decode cX7_isSame 4 = .ok (.getfield 32, 3) := sorry
theorem dX7_isSame_7 : decode cX7_isSame 7 = .ok (.iload 4, 2) := sorry
theorem dX7_isSame_9 : decode cX7_isSame 9 = .ok (.isub, 1) := sorry
theorem dX7_isSame_10 : decode cX7_isSame 10 = .ok (.if_icmp .eq 5, 3) := sorry
theorem dX7_isSame_13 : decode cX7_isSame 13 = .ok (.iconst 0, 1) := sorry
theorem dX7_isSame_14 : decode cX7_isSame 14 = .ok (.ireturn, 1) := sorry
theorem dX7_isSame_15 : decode cX7_isSame 15 = .ok (.iconst 0, 1) := sorry
theorem dX7_isSame_16 : decode cX7_isSame 16 = .ok (.istore 5, 2) := sorry
theorem dX7_isSame_18 : decode cX7_isSame 18 = .ok (.iload 5, 2) := sorry
theorem dX7_isSame_20 : decode cX7_isSame 20 = .ok (.iload_n 3, 1) := sorry
theorem dX7_isSame_21 : decode cX7_isSame 21 = .ok (.iload_n 2, 1) := sorry
theorem dX7_isSame_22 : decode cX7_isSame 22 = .ok (.isub, 1) := sorry
theorem dX7_isSame_23 : decode cX7_isSame 23 = .ok (.if_icmp .ge 32, 3) := sorry
theorem dX7_isSame_26 : decode cX7_isSame 26 = .ok (.aload_n 1, 1) := sorry
theorem dX7_isSame_27 : decode cX7_isSame 27 = .ok (.iload_n 2, 1) := sorry
theorem dX7_isSame_28 : decode cX7_isSame 28 = .ok (.iload 5, 2) := sorry
theorem dX7_isSame_30 : decode cX7_isSame 30 = .ok (.iadd, 1) := sorry
theorem dX7_isSame_31 : decode cX7_isSame 31 = .ok (.invokevirtual 95, 3) := sorry
theorem dX7_isSame_34 : decode cX7_isSame 34 = .ok (.aload_n 0, 1) := sorry
theorem dX7_isSame_35 : decode cX7_isSame 35 = .ok (.getfield 9, 3) := sorry
theorem dX7_isSame_38 : decode cX7_isSame 38 = .ok (.iload 4, 2) := sorry
theorem dX7_isSame_40 : decode cX7_isSame 40 = .ok (.iload 5, 2) := sorry
theorem dX7_isSame_42 : decode cX7_isSame 42 = .ok (.iadd, 1) := sorry
theorem dX7_isSame_43 : decode cX7_isSame 43 = .ok (.baload, 1) := sorry
theorem dX7_isSame_44 : decode cX7_isSame 44 = .ok (.if_icmp .eq 5, 3) := sorry
theorem dX7_isSame_47 : decode cX7_isSame 47 = .ok (.iconst 0, 1) := sorry
theorem dX7_isSame_48 : decode cX7_isSame 48 = .ok (.ireturn, 1) := sorry
theorem dX7_isSame_49 : decode cX7_isSame 49 = .ok (.iinc 5 1, 3) := sorry
theorem dX7_isSame_52 : decode cX7_isSame 52 = .ok (.goto (-34), 3) := sorry
theorem dX7_isSame_55 : decode cX7_isSame 55 = .ok (.iconst 1, 1) := sorry
theorem dX7_isSame_56 : decode cX7_isSame 56 = .ok (.ireturn, 1) := sorry
set_option maxRecDepth 20000 in
theorem ggX8_init_X4_init : GoodIn wsX8_init wsX4_init := sorry
set_option maxRecDepth 20000 in
theorem gX8_init_X4_init_n9 : GoodIn wsX8_init (wsX4_init) := sorry
set_option maxRecDepth 20000 in
theorem ggX8_init_X0_init : GoodIn wsX8_init wsX0_init := sorry
set_option maxRecDepth 20000 in
theorem gX8_init_X0_init_n18 : GoodIn wsX8_init (wsX0_init) := sorry
set_option maxRecDepth 20000 in
theorem ggX8_init_X2_init : GoodIn wsX8_init wsX2_init := sorry
set_option maxRecDepth 20000 in
theorem gX8_init_X2_init_n25 : GoodIn wsX8_init (wsX2_init) := sorry
set_option maxRecDepth 20000 in
theorem ggX8_init_X3_init : GoodIn wsX8_init wsX3_init := sorry
set_option maxRecDepth 20000 in
theorem gX8_init_X3_init_n32 : GoodIn wsX8_init (wsX3_init) := sorry
theorem dX8_init_0 : decode cX8_init 0 = .ok (.aload_n 0, 1) := sorry
theorem dX8_init_1 : decode cX8_init 1 = .ok (.invokespecial 1, 3) := sorry
theorem dX8_init_4 : decode cX8_init 4 = .ok (.aload_n 0, 1) := sorry
theorem dX8_init_5 : decode cX8_init 5 = .ok (.new 7, 3) := sorry
theorem dX8_init_8 : decode cX8_init 8 = .ok (.dup, 1) := sorry
theorem dX8_init_9 : decode cX8_init 9 = .ok (.invokespecial 9, 3) := sorry
theorem dX8_init_12 : decode cX8_init 12 = .ok (.putfield 10, 3) := sorry
theorem dX8_init_15 : decode cX8_init 15 = .ok (.aload_n 0, 1) := sorry
theorem dX8_init_16 : decode cX8_init 16 = .ok (.new 16, 3) := sorry
theorem dX8_init_19 : decode cX8_init 19 = .ok (.dup, 1) := sorry
theorem dX8_init_20 : decode cX8_init 20 = .ok (.invokespecial 18, 3) := sorry
theorem dX8_init_23 : decode cX8_init 23 = .ok (.putfield 19, 3) := sorry
theorem dX8_init_26 : decode cX8_init 26 = .ok (.aload_n 0, 1) := sorry
theorem dX8_init_27 : decode cX8_init 27 = .ok (.new 23, 3) := sorry
theorem dX8_init_30 : decode cX8_init 30 = .ok (.dup, 1) := sorry
theorem dX8_init_31 : decode cX8_init 31 = .ok (.invokespecial 25, 3) := sorry
theorem dX8_init_34 : decode cX8_init 34 = .ok (.putfield 26, 3) := sorry
theorem dX8_init_37 : decode cX8_init 37 = .ok (.aload_n 0, 1) := sorry
theorem dX8_init_38 : decode cX8_init 38 = .ok (.new 30, 3) := sorry
theorem dX8_init_41 : decode cX8_init 41 = .ok (.dup, 1) := sorry
theorem dX8_init_42 : decode cX8_init 42 = .ok (.invokespecial 32, 3) := sorry
theorem dX8_init_45 : decode cX8_init 45 = .ok (.putfield 33, 3) := sorry
theorem dX8_init_48 : decode cX8_init 48 = .ok (.return_, 1) := sorry
set_option maxRecDepth 20000 in
theorem ggX8_begin_X4_begin : GoodIn wsX8_begin wsX4_begin := sorry
set_option maxRecDepth 20000 in
theorem gX8_begin_X4_begin : GoodIn wsX8_begin (wsV RX8 37 RX4 yX4_begin wsX4_begin) := sorry
set_option maxRecDepth 20000 in
theorem ggX8_begin_X2_forget : GoodIn wsX8_begin wsX2_forget := sorry
set_option maxRecDepth 20000 in
theorem gX8_begin_X2_forget : GoodIn wsX8_begin (wsV RX8 41 RX2 yX2_forget wsX2_forget) := sorry
set_option maxRecDepth 20000 in
theorem ggX8_begin_X3_clear : GoodIn wsX8_begin wsX3_clear := sorry
set_option maxRecDepth 20000 in
theorem gX8_begin_X3_clear : GoodIn wsX8_begin (wsV RX8 44 RX3 yX3_clear wsX3_clear) := sorry
theorem dX8_begin_0 : decode cX8_begin 0 = .ok (.aload_n 0, 1) := sorry
theorem dX8_begin_1 : decode cX8_begin 1 = .ok (.getfield 10, 3) := sorry
theorem dX8_begin_4 : decode cX8_begin 4 = .ok (.aload_n 1, 1) := sorry
theorem dX8_begin_5 : decode cX8_begin 5 = .ok (.invokevirtual 37, 3) := sorry
theorem dX8_begin_8 : decode cX8_begin 8 = .ok (.aload_n 0, 1) := sorry
theorem dX8_begin_9 : decode cX8_begin 9 = .ok (.getfield 26, 3) := sorry
theorem dX8_begin_12 : decode cX8_begin 12 = .ok (.invokevirtual 41, 3) := sorry
theorem dX8_begin_15 : decode cX8_begin 15 = .ok (.aload_n 0, 1) := sorry
theorem dX8_begin_16 : decode cX8_begin 16 = .ok (.getfield 33, 3) := sorry
theorem dX8_begin_19 : decode cX8_begin 19 = .ok (.invokevirtual 44, 3) := sorry
theorem dX8_begin_22 : decode cX8_begin 22 = .ok (.return_, 1) := sorry
set_option maxRecDepth 20000 in
theorem ggX8_take_X4_take : GoodIn wsX8_take wsX4_take := sorry
set_option maxRecDepth 20000 in
theorem gX8_take_X4_take : GoodIn wsX8_take (wsV RX8 47 RX4 yX4_take wsX4_take) := sorry
set_option maxRecDepth 20000 in
theorem ggX8_take_X0_take : GoodIn wsX8_take wsX0_take := sorry
set_option maxRecDepth 20000 in
theorem gX8_take_X0_take : GoodIn wsX8_take (wsV RX8 55 RX0 yX0_take wsX0_take) := sorry
set_option maxRecDepth 20000 in
theorem ggX8_take_X2_take : GoodIn wsX8_take wsX2_take := sorry
set_option maxRecDepth 20000 in
theorem gX8_take_X2_take : GoodIn wsX8_take (wsV RX8 58 RX2 yX2_take wsX2_take) := sorry
set_option maxRecDepth 20000 in
theorem ggX8_take_X3_take : GoodIn wsX8_take wsX3_take := sorry
set_option maxRecDepth 20000 in
theorem gX8_take_X3_take : GoodIn wsX8_take (wsV RX8 61 RX3 yX3_take wsX3_take) := sorry
theorem dX8_take_0 : decode cX8_take 0 = .ok (.aload_n 0, 1) := sorry
theorem dX8_take_1 : decode cX8_take 1 = .ok (.getfield 10, 3) := sorry
theorem dX8_take_4 : decode cX8_take 4 = .ok (.aload_n 1, 1) := sorry
theorem dX8_take_5 : decode cX8_take 5 = .ok (.getfield 10, 3) := sorry
theorem dX8_take_8 : decode cX8_take 8 = .ok (.invokevirtual 47, 3) := sorry
theorem dX8_take_11 : decode cX8_take 11 = .ok (.aload_n 0, 1) := sorry
theorem dX8_take_12 : decode cX8_take 12 = .ok (.getfield 19, 3) := sorry
theorem dX8_take_15 : decode cX8_take 15 = .ok (.aload_n 1, 1) := sorry
theorem dX8_take_16 : decode cX8_take 16 = .ok (.getfield 19, 3) := sorry
theorem dX8_take_19 : decode cX8_take 19 = .ok (.aload_n 1, 1) := sorry
theorem dX8_take_20 : decode cX8_take 20 = .ok (.getfield 10, 3) := sorry
theorem dX8_take_23 : decode cX8_take 23 = .ok (.getfield 51, 3) := sorry
theorem dX8_take_26 : decode cX8_take 26 = .ok (.invokevirtual 55, 3) := sorry
theorem dX8_take_29 : decode cX8_take 29 = .ok (.aload_n 0, 1) := sorry
theorem dX8_take_30 : decode cX8_take 30 = .ok (.getfield 26, 3) := sorry
theorem dX8_take_33 : decode cX8_take 33 = .ok (.aload_n 1, 1) := sorry
theorem dX8_take_34 : decode cX8_take 34 = .ok (.getfield 26, 3) := sorry
theorem dX8_take_37 : decode cX8_take 37 = .ok (.invokevirtual 58, 3) := sorry
theorem dX8_take_40 : decode cX8_take 40 = .ok (.aload_n 0, 1) := sorry
theorem dX8_take_41 : decode cX8_take 41 = .ok (.getfield 33, 3) := sorry
theorem dX8_take_44 : decode cX8_take 44 = .ok (.aload_n 1, 1) := sorry
theorem dX8_take_45 : decode cX8_take 45 = .ok (.getfield 33, 3) := sorry
theorem dX8_take_48 : decode cX8_take 48 = .ok (.invokevirtual 61, 3) := sorry
theorem dX8_take_51 : decode cX8_take 51 = .ok (.return_, 1) := sorry
theorem dX9_init_0 : decode cX9_init 0 = .ok (.aload_n 0, 1) := sorry
theorem dX9_init_1 : decode cX9_init 1 = .ok (.invokespecial 1, 3) := sorry
theorem dX9_init_4 : decode cX9_init 4 = .ok (.return_, 1) := sorry
set_option maxRecDepth 20000 in
theorem ggX10_init_X7_init : GoodIn wsX10_init wsX7_init := sorry
set_option maxRecDepth 20000 in
theorem gX10_init_X7_init_n15 : GoodIn wsX10_init (wsX7_init) := sorry
set_option maxRecDepth 20000 in
theorem ggX10_init_X6_init : GoodIn wsX10_init wsX6_init := sorry
set_option maxRecDepth 20000 in
theorem gX10_init_X6_init : GoodIn wsX10_init (wsX6_init) := sorry
set_option maxRecDepth 20000 in
theorem ggX10_init_X8_init : GoodIn wsX10_init wsX8_init := sorry
set_option maxRecDepth 20000 in
theorem gX10_init_X8_init_n38 : GoodIn wsX10_init (wsX8_init) := sorry
set_option maxRecDepth 20000 in
theorem ggX10_init_X4_init : GoodIn wsX10_init wsX4_init := sorry
set_option maxRecDepth 20000 in
theorem gX10_init_X4_init_n49 : GoodIn wsX10_init (wsX4_init) := sorry
set_option maxRecDepth 20000 in
theorem ggX10_init_X1_init : GoodIn wsX10_init wsX1_init := sorry
set_option maxRecDepth 20000 in
theorem gX10_init_X1_init_n56 : GoodIn wsX10_init (wsX1_init) := sorry
set_option maxRecDepth 20000 in
theorem ggX10_init_X5_init : GoodIn wsX10_init wsX5_init := sorry
set_option maxRecDepth 20000 in
theorem gX10_init_X5_init_n65 : GoodIn wsX10_init (wsX5_init) := sorry
set_option maxRecDepth 20000 in
theorem ggX10_init_X4_begin : GoodIn wsX10_init wsX4_begin := sorry
set_option maxRecDepth 20000 in
theorem gX10_init_X4_begin : GoodIn wsX10_init (wsV RX10 69 RX4 yX4_begin wsX4_begin) := sorry
theorem dX10_init_0 : decode cX10_init 0 = .ok (.aload_n 0, 1) := sorry
theorem dX10_init_1 : decode cX10_init 1 = .ok (.invokespecial 3, 3) := sorry
theorem dX10_init_4 : decode cX10_init 4 = .ok (.aload_n 0, 1) := sorry
theorem dX10_init_5 : decode cX10_init 5 = .ok (.sipush 500, 3) := sorry
theorem dX10_init_8 : decode cX10_init 8 = .ok (.newarray .byte, 2) := sorry
theorem dX10_init_10 : decode cX10_init 10 = .ok (.putfield 9, 3) := sorry
theorem dX10_init_13 : decode cX10_init 13 = .ok (.aload_n 0, 1) := sorry
theorem dX10_init_14 : decode cX10_init 14 = .ok (.new 13, 3) := sorry
theorem dX10_init_17 : decode cX10_init 17 = .ok (.dup, 1) := sorry
theorem dX10_init_18 : decode cX10_init 18 = .ok (.invokespecial 15, 3) := sorry
theorem dX10_init_21 : decode cX10_init 21 = .ok (.putfield 16, 3) := sorry
theorem dX10_init_24 : decode cX10_init 24 = .ok (.aload_n 0, 1) := sorry
theorem dX10_init_25 : decode cX10_init 25 = .ok (.new 20, 3) := sorry
theorem dX10_init_28 : decode cX10_init 28 = .ok (.dup, 1) := sorry
theorem dX10_init_29 : decode cX10_init 29 = .ok (.invokespecial 22, 3) := sorry
theorem dX10_init_32 : decode cX10_init 32 = .ok (.putfield 23, 3) := sorry
theorem dX10_init_35 : decode cX10_init 35 = .ok (.aload_n 0, 1) := sorry
theorem dX10_init_36 : decode cX10_init 36 = .ok (.new 20, 3) := sorry
theorem dX10_init_39 : decode cX10_init 39 = .ok (.dup, 1) := sorry
theorem dX10_init_40 : decode cX10_init 40 = .ok (.invokespecial 22, 3) := sorry
theorem dX10_init_43 : decode cX10_init 43 = .ok (.putfield 27, 3) := sorry
theorem dX10_init_46 : decode cX10_init 46 = .ok (.aload_n 0, 1) := sorry
theorem dX10_init_47 : decode cX10_init 47 = .ok (.bipush 7, 2) := sorry
theorem dX10_init_49 : decode cX10_init 49 = .ok (.anewarray 30, 3) := sorry
theorem dX10_init_52 : decode cX10_init 52 = .ok (.putfield 32, 3) := sorry
theorem dX10_init_55 : decode cX10_init 55 = .ok (.aload_n 0, 1) := sorry
theorem dX10_init_56 : decode cX10_init 56 = .ok (.new 36, 3) := sorry
theorem dX10_init_59 : decode cX10_init 59 = .ok (.dup, 1) := sorry
theorem dX10_init_60 : decode cX10_init 60 = .ok (.invokespecial 38, 3) := sorry
theorem dX10_init_63 : decode cX10_init 63 = .ok (.putfield 39, 3) := sorry
theorem dX10_init_66 : decode cX10_init 66 = .ok (.aload_n 0, 1) := sorry
theorem dX10_init_67 : decode cX10_init 67 = .ok (.iconst 3, 1) := sorry
theorem dX10_init_68 : decode cX10_init 68 = .ok (.anewarray 36, 3) := sorry
theorem dX10_init_71 : decode cX10_init 71 = .ok (.putfield 43, 3) := sorry
theorem dX10_init_74 : decode cX10_init 74 = .ok (.aload_n 0, 1) := sorry
theorem dX10_init_75 : decode cX10_init 75 = .ok (.new 47, 3) := sorry
theorem dX10_init_78 : decode cX10_init 78 = .ok (.dup, 1) := sorry
theorem dX10_init_79 : decode cX10_init 79 = .ok (.invokespecial 49, 3) := sorry
theorem dX10_init_82 : decode cX10_init 82 = .ok (.putfield 50, 3) := sorry
theorem dX10_init_85 : decode cX10_init 85 = .ok (.aload_n 0, 1) := sorry
theorem dX10_init_86 : decode cX10_init 86 = .ok (.new 54, 3) := sorry
theorem dX10_init_89 : decode cX10_init 89 = .ok (.dup, 1) := sorry
theorem dX10_init_90 : decode cX10_init 90 = .ok (.invokespecial 56, 3) := sorry
theorem dX10_init_93 : decode cX10_init 93 = .ok (.putfield 57, 3) := sorry
theorem dX10_init_96 : decode cX10_init 96 = .ok (.aload_n 0, 1) := sorry
theorem dX10_init_97 : decode cX10_init 97 = .ok (.iconst 3, 1) := sorry
theorem dX10_init_98 : decode cX10_init 98 = .ok (.newarray .int, 2) := sorry
theorem dX10_init_100 : decode cX10_init 100 = .ok (.putfield 61, 3) := sorry
theorem dX10_init_103 : decode cX10_init 103 = .ok (.iconst 0, 1) := sorry
theorem dX10_init_104 : decode cX10_init 104 = .ok (.istore_n 1, 1) := sorry
theorem dX10_init_105 : decode cX10_init 105 = .ok (.iload_n 1, 1) := sorry
theorem dX10_init_106 : decode cX10_init 106 = .ok (.aload_n 0, 1) := sorry
theorem dX10_init_107 : decode cX10_init 107 = .ok (.getfield 32, 3) := sorry
theorem dX10_init_110 : decode cX10_init 110 = .ok (.arraylength, 1) := sorry
theorem dX10_init_111 : decode cX10_init 111 = .ok (.if_icmp .ge 22, 3) := sorry
theorem dX10_init_114 : decode cX10_init 114 = .ok (.aload_n 0, 1) := sorry
theorem dX10_init_115 : decode cX10_init 115 = .ok (.getfield 32, 3) := sorry
theorem dX10_init_118 : decode cX10_init 118 = .ok (.iload_n 1, 1) := sorry
theorem dX10_init_119 : decode cX10_init 119 = .ok (.new 30, 3) := sorry
theorem dX10_init_122 : decode cX10_init 122 = .ok (.dup, 1) := sorry
theorem dX10_init_123 : decode cX10_init 123 = .ok (.invokespecial 65, 3) := sorry
theorem dX10_init_126 : decode cX10_init 126 = .ok (.aastore, 1) := sorry
theorem dX10_init_127 : decode cX10_init 127 = .ok (.iinc 1 1, 3) := sorry
theorem dX10_init_130 : decode cX10_init 130 = .ok (.goto (-25), 3) := sorry
theorem dX10_init_133 : decode cX10_init 133 = .ok (.aload_n 0, 1) := sorry
theorem dX10_init_134 : decode cX10_init 134 = .ok (.getfield 39, 3) := sorry
theorem dX10_init_137 : decode cX10_init 137 = .ok (.getfield 66, 3) := sorry
theorem dX10_init_140 : decode cX10_init 140 = .ok (.aload_n 0, 1) := sorry
theorem dX10_init_141 : decode cX10_init 141 = .ok (.getfield 23, 3) := sorry
theorem dX10_init_144 : decode cX10_init 144 = .ok (.invokevirtual 69, 3) := sorry
theorem dX10_init_147 : decode cX10_init 147 = .ok (.return_, 1) := sorry
set_option maxRecDepth 20000 in
theorem ggX10_feed_X10_putOnTape : GoodIn wsX10_feed wsX10_putOnTape := sorry
set_option maxRecDepth 20000 in
theorem gX10_feed_X10_putOnTape : GoodIn wsX10_feed (wsV RX10 77 RX10 yX10_putOnTape wsX10_putOnTape) := sorry
theorem dX10_feed_0 : decode cX10_feed 0 = .ok (.aload_n 0, 1) := sorry
theorem dX10_feed_1 : decode cX10_feed 1 = .ok (.getfield 73, 3) := sorry
theorem dX10_feed_4 : decode cX10_feed 4 = .ok (.bipush 20, 2) := sorry
theorem dX10_feed_6 : decode cX10_feed 6 = .ok (.iadd, 1) := sorry
theorem dX10_feed_7 : decode cX10_feed 7 = .ok (.sipush 500, 3) := sorry
theorem dX10_feed_10 : decode cX10_feed 10 = .ok (.if_icmp .le 5, 3) := sorry
theorem dX10_feed_13 : decode cX10_feed 13 = .ok (.iconst (-1), 1) := sorry
theorem dX10_feed_14 : decode cX10_feed 14 = .ok (.ireturn, 1) := sorry
theorem dX10_feed_15 : decode cX10_feed 15 = .ok (.aload_n 0, 1) := sorry
theorem dX10_feed_16 : decode cX10_feed 16 = .ok (.iload_n 1, 1) := sorry
theorem dX10_feed_17 : decode cX10_feed 17 = .ok (.invokevirtual 77, 3) := sorry
theorem dX10_feed_20 : decode cX10_feed 20 = .ok (.aload_n 0, 1) := sorry
theorem dX10_feed_21 : decode cX10_feed 21 = .ok (.iload_n 2, 1) := sorry
theorem dX10_feed_22 : decode cX10_feed 22 = .ok (.invokevirtual 77, 3) := sorry
theorem dX10_feed_25 : decode cX10_feed 25 = .ok (.aload_n 0, 1) := sorry
theorem dX10_feed_26 : decode cX10_feed 26 = .ok (.iload_n 3, 1) := sorry
theorem dX10_feed_27 : decode cX10_feed 27 = .ok (.invokevirtual 77, 3) := sorry
theorem dX10_feed_30 : decode cX10_feed 30 = .ok (.aload_n 0, 1) := sorry
theorem dX10_feed_31 : decode cX10_feed 31 = .ok (.iload 4, 2) := sorry
theorem dX10_feed_33 : decode cX10_feed 33 = .ok (.invokevirtual 77, 3) := sorry
theorem dX10_feed_36 : decode cX10_feed 36 = .ok (.aload_n 0, 1) := sorry
theorem dX10_feed_37 : decode cX10_feed 37 = .ok (.iload 5, 2) := sorry
theorem dX10_feed_39 : decode cX10_feed 39 = .ok (.invokevirtual 77, 3) := sorry
theorem dX10_feed_42 : decode cX10_feed 42 = .ok (.aload_n 0, 1) := sorry
theorem dX10_feed_43 : decode cX10_feed 43 = .ok (.getfield 73, 3) := sorry
theorem dX10_feed_46 : decode cX10_feed 46 = .ok (.ireturn, 1) := sorry
theorem dX10_putOnTape_0 : decode cX10_putOnTape 0 = .ok (.bipush 24, 2) := sorry
theorem dX10_putOnTape_2 : decode cX10_putOnTape 2 = .ok (.istore_n 2, 1) := sorry
theorem dX10_putOnTape_3 : decode cX10_putOnTape 3 = .ok (.iload_n 2, 1) := sorry
theorem dX10_putOnTape_4 : decode cX10_putOnTape 4 = .ok (.ifCond .lt 44, 3) := sorry
theorem dX10_putOnTape_7 : decode cX10_putOnTape 7 = .ok (.aload_n 0, 1) := sorry
theorem dX10_putOnTape_8 : decode cX10_putOnTape 8 = .ok (.getfield 73, 3) := sorry
theorem dX10_putOnTape_11 : decode cX10_putOnTape 11 = .ok (.aload_n 0, 1) := sorry
theorem dX10_putOnTape_12 : decode cX10_putOnTape 12 = .ok (.getfield 9, 3) := sorry
theorem dX10_putOnTape_15 : decode cX10_putOnTape 15 = .ok (.arraylength, 1) := sorry
theorem dX10_putOnTape_16 : decode cX10_putOnTape 16 = .ok (.if_icmp .ge 32, 3) := sorry
theorem dX10_putOnTape_19 : decode cX10_putOnTape 19 = .ok (.aload_n 0, 1) := sorry
theorem dX10_putOnTape_20 : decode cX10_putOnTape 20 = .ok (.getfield 9, 3) := sorry
theorem dX10_putOnTape_23 : decode cX10_putOnTape 23 = .ok (.aload_n 0, 1) := sorry
theorem dX10_putOnTape_24 : decode cX10_putOnTape 24 = .ok (.getfield 73, 3) := sorry
theorem dX10_putOnTape_27 : decode cX10_putOnTape 27 = .ok (.iload_n 1, 1) := sorry
theorem dX10_putOnTape_28 : decode cX10_putOnTape 28 = .ok (.iload_n 2, 1) := sorry
theorem dX10_putOnTape_29 : decode cX10_putOnTape 29 = .ok (.iushr, 1) := sorry
theorem dX10_putOnTape_30 : decode cX10_putOnTape 30 = .ok (.i2b, 1) := sorry
theorem dX10_putOnTape_31 : decode cX10_putOnTape 31 = .ok (.bastore, 1) := sorry
theorem dX10_putOnTape_32 : decode cX10_putOnTape 32 = .ok (.aload_n 0, 1) := sorry
theorem dX10_putOnTape_33 : decode cX10_putOnTape 33 = .ok (.dup, 1) := sorry
theorem dX10_putOnTape_34 : decode cX10_putOnTape 34 = .ok (.getfield 73, 3) := sorry
theorem dX10_putOnTape_37 : decode cX10_putOnTape 37 = .ok (.iconst 1, 1) := sorry
theorem dX10_putOnTape_38 : decode cX10_putOnTape 38 = .ok (.iadd, 1) := sorry
theorem dX10_putOnTape_39 : decode cX10_putOnTape 39 = .ok (.putfield 73, 3) := sorry
theorem dX10_putOnTape_42 : decode cX10_putOnTape 42 = .ok (.iinc 2 (-8), 3) := sorry
theorem dX10_putOnTape_45 : decode cX10_putOnTape 45 = .ok (.goto (-42), 3) := sorry
theorem dX10_putOnTape_48 : decode cX10_putOnTape 48 = .ok (.return_, 1) := sorry
set_option maxRecDepth 20000 in
theorem ggX10_siege_X10_demand : GoodIn wsX10_siege wsX10_demand := sorry
set_option maxRecDepth 20000 in
theorem gX10_siege_X10_demand : GoodIn wsX10_siege (wsV RX10 81 RX10 yX10_demand wsX10_demand) := sorry
set_option maxRecDepth 20000 in
theorem ggX10_siege_X6_clear : GoodIn wsX10_siege wsX6_clear := sorry
set_option maxRecDepth 20000 in
theorem gX10_siege_X6_clear : GoodIn wsX10_siege (wsV RX10 85 RX6 yX6_clear wsX6_clear) := sorry
set_option maxRecDepth 20000 in
theorem ggX10_siege_X7_read : GoodIn wsX10_siege wsX7_read := sorry
set_option maxRecDepth 20000 in
theorem gX10_siege_X7_read : GoodIn wsX10_siege (wsV RX10 88 RX7 yX7_read wsX7_read) := sorry
set_option maxRecDepth 20000 in
theorem ggX10_siege_X8_begin : GoodIn wsX10_siege wsX8_begin := sorry
set_option maxRecDepth 20000 in
theorem gX10_siege_X8_begin : GoodIn wsX10_siege (wsV RX10 98 RX8 yX8_begin wsX8_begin) := sorry
theorem dX10_siege_0 : decode cX10_siege 0 = .ok (.aload_n 0, 1) := sorry
theorem dX10_siege_1 : decode cX10_siege 1 = .ok (.iload_n 1, 1) := sorry
theorem dX10_siege_2 : decode cX10_siege 2 = .ok (.ifCond .lt 15, 3) := sorry
theorem dX10_siege_5 : decode cX10_siege 5 = .ok (.iload_n 1, 1) := sorry
theorem dX10_siege_6 : decode cX10_siege 6 = .ok (.aload_n 0, 1) := sorry
theorem dX10_siege_7 : decode cX10_siege 7 = .ok (.getfield 73, 3) := sorry
theorem dX10_siege_10 : decode cX10_siege 10 = .ok (.if_icmp .gt 7, 3) := sorry
theorem dX10_siege_13 : decode cX10_siege 13 = .ok (.iconst 1, 1) := sorry
theorem dX10_siege_14 : decode cX10_siege 14 = .ok (.goto 4, 3) := sorry
theorem dX10_siege_17 : decode cX10_siege 17 = .ok (.iconst 0, 1) := sorry
theorem dX10_siege_18 : decode cX10_siege 18 = .ok (.invokevirtual 81, 3) := sorry
theorem dX10_siege_21 : decode cX10_siege 21 = .ok (.aload_n 0, 1) := sorry
theorem dX10_siege_22 : decode cX10_siege 22 = .ok (.iconst 0, 1) := sorry
theorem dX10_siege_23 : decode cX10_siege 23 = .ok (.putfield 73, 3) := sorry
theorem dX10_siege_26 : decode cX10_siege 26 = .ok (.aload_n 0, 1) := sorry
theorem dX10_siege_27 : decode cX10_siege 27 = .ok (.getfield 27, 3) := sorry
theorem dX10_siege_30 : decode cX10_siege 30 = .ok (.invokevirtual 85, 3) := sorry
theorem dX10_siege_33 : decode cX10_siege 33 = .ok (.aload_n 0, 1) := sorry
theorem dX10_siege_34 : decode cX10_siege 34 = .ok (.getfield 16, 3) := sorry
theorem dX10_siege_37 : decode cX10_siege 37 = .ok (.aload_n 0, 1) := sorry
theorem dX10_siege_38 : decode cX10_siege 38 = .ok (.getfield 9, 3) := sorry
theorem dX10_siege_41 : decode cX10_siege 41 = .ok (.iload_n 1, 1) := sorry
theorem dX10_siege_42 : decode cX10_siege 42 = .ok (.aload_n 0, 1) := sorry
theorem dX10_siege_43 : decode cX10_siege 43 = .ok (.getfield 27, 3) := sorry
theorem dX10_siege_46 : decode cX10_siege 46 = .ok (.invokevirtual 88, 3) := sorry
theorem dX10_siege_49 : decode cX10_siege 49 = .ok (.istore_n 2, 1) := sorry
theorem dX10_siege_50 : decode cX10_siege 50 = .ok (.iload_n 2, 1) := sorry
theorem dX10_siege_51 : decode cX10_siege 51 = .ok (.ifCond .eq 8, 3) := sorry
theorem dX10_siege_54 : decode cX10_siege 54 = .ok (.iload_n 2, 1) := sorry
theorem dX10_siege_55 : decode cX10_siege 55 = .ok (.bipush 10, 2) := sorry
theorem dX10_siege_57 : decode cX10_siege 57 = .ok (.isub, 1) := sorry
theorem dX10_siege_58 : decode cX10_siege 58 = .ok (.ireturn, 1) := sorry
theorem dX10_siege_59 : decode cX10_siege 59 = .ok (.aload_n 0, 1) := sorry
theorem dX10_siege_60 : decode cX10_siege 60 = .ok (.getfield 23, 3) := sorry
theorem dX10_siege_63 : decode cX10_siege 63 = .ok (.astore_n 3, 1) := sorry
theorem dX10_siege_64 : decode cX10_siege 64 = .ok (.aload_n 0, 1) := sorry
theorem dX10_siege_65 : decode cX10_siege 65 = .ok (.aload_n 0, 1) := sorry
theorem dX10_siege_66 : decode cX10_siege 66 = .ok (.getfield 27, 3) := sorry
theorem dX10_siege_69 : decode cX10_siege 69 = .ok (.putfield 23, 3) := sorry
theorem dX10_siege_72 : decode cX10_siege 72 = .ok (.aload_n 0, 1) := sorry
theorem dX10_siege_73 : decode cX10_siege 73 = .ok (.aload_n 3, 1) := sorry
theorem dX10_siege_74 : decode cX10_siege 74 = .ok (.putfield 27, 3) := sorry
theorem dX10_siege_77 : decode cX10_siege 77 = .ok (.aload_n 0, 1) := sorry
theorem dX10_siege_78 : decode cX10_siege 78 = .ok (.iconst 0, 1) := sorry
theorem dX10_siege_79 : decode cX10_siege 79 = .ok (.putfield 92, 3) := sorry
theorem dX10_siege_82 : decode cX10_siege 82 = .ok (.aload_n 0, 1) := sorry
theorem dX10_siege_83 : decode cX10_siege 83 = .ok (.iconst 0, 1) := sorry
theorem dX10_siege_84 : decode cX10_siege 84 = .ok (.putfield 95, 3) := sorry
theorem dX10_siege_87 : decode cX10_siege 87 = .ok (.aload_n 0, 1) := sorry
theorem dX10_siege_88 : decode cX10_siege 88 = .ok (.getfield 39, 3) := sorry
theorem dX10_siege_91 : decode cX10_siege 91 = .ok (.aload_n 0, 1) := sorry
theorem dX10_siege_92 : decode cX10_siege 92 = .ok (.getfield 23, 3) := sorry
theorem dX10_siege_95 : decode cX10_siege 95 = .ok (.invokevirtual 98, 3) := sorry
theorem dX10_siege_98 : decode cX10_siege 98 = .ok (.aload_n 0, 1) := sorry
theorem dX10_siege_99 : decode cX10_siege 99 = .ok (.getfield 23, 3) := sorry
theorem dX10_siege_102 : decode cX10_siege 102 = .ok (.getfield 99, 3) := sorry
theorem dX10_siege_105 : decode cX10_siege 105 = .ok (.ireturn, 1) := sorry
set_option maxRecDepth 20000 in
theorem ggX10_contract_X10_demand : GoodIn wsX10_contract wsX10_demand := sorry
set_option maxRecDepth 20000 in
theorem gX10_contract_X10_demand : GoodIn wsX10_contract (wsV RX10 81 RX10 yX10_demand wsX10_demand) := sorry
set_option maxRecDepth 20000 in
theorem ggX10_contract_X5_clear : GoodIn wsX10_contract wsX5_clear := sorry
set_option maxRecDepth 20000 in
theorem gX10_contract_X5_clear : GoodIn wsX10_contract (wsV RX10 105 RX5 yX5_clear wsX5_clear) := sorry
set_option maxRecDepth 20000 in
theorem ggX10_contract_X7_read : GoodIn wsX10_contract wsX7_read := sorry
set_option maxRecDepth 20000 in
theorem gX10_contract_X7_read : GoodIn wsX10_contract (wsV RX10 88 RX7 yX7_read wsX7_read) := sorry
theorem dX10_contract_0 : decode cX10_contract 0 = .ok (.aload_n 0, 1) := sorry
theorem dX10_contract_1 : decode cX10_contract 1 = .ok (.iload_n 1, 1) := sorry
theorem dX10_contract_2 : decode cX10_contract 2 = .ok (.ifCond .lt 22, 3) := sorry
theorem dX10_contract_5 : decode cX10_contract 5 = .ok (.iload_n 1, 1) := sorry
theorem dX10_contract_6 : decode cX10_contract 6 = .ok (.aload_n 0, 1) := sorry
theorem dX10_contract_7 : decode cX10_contract 7 = .ok (.getfield 73, 3) := sorry
theorem dX10_contract_10 : decode cX10_contract 10 = .ok (.if_icmp .gt 14, 3) := sorry
theorem dX10_contract_13 : decode cX10_contract 13 = .ok (.iload_n 1, 1) := sorry
theorem dX10_contract_14 : decode cX10_contract 14 = .ok (.sipush 200, 3) := sorry
theorem dX10_contract_17 : decode cX10_contract 17 = .ok (.if_icmp .gt 7, 3) := sorry
theorem dX10_contract_20 : decode cX10_contract 20 = .ok (.iconst 1, 1) := sorry
theorem dX10_contract_21 : decode cX10_contract 21 = .ok (.goto 4, 3) := sorry
theorem dX10_contract_24 : decode cX10_contract 24 = .ok (.iconst 0, 1) := sorry
theorem dX10_contract_25 : decode cX10_contract 25 = .ok (.invokevirtual 81, 3) := sorry
theorem dX10_contract_28 : decode cX10_contract 28 = .ok (.aload_n 0, 1) := sorry
theorem dX10_contract_29 : decode cX10_contract 29 = .ok (.iconst 0, 1) := sorry
theorem dX10_contract_30 : decode cX10_contract 30 = .ok (.putfield 73, 3) := sorry
theorem dX10_contract_33 : decode cX10_contract 33 = .ok (.aload_n 0, 1) := sorry
theorem dX10_contract_34 : decode cX10_contract 34 = .ok (.getfield 92, 3) := sorry
theorem dX10_contract_37 : decode cX10_contract 37 = .ok (.bipush 6, 2) := sorry
theorem dX10_contract_39 : decode cX10_contract 39 = .ok (.if_icmp .lt 13, 3) := sorry
theorem dX10_contract_42 : decode cX10_contract 42 = .ok (.aload_n 0, 1) := sorry
theorem dX10_contract_43 : decode cX10_contract 43 = .ok (.getfield 16, 3) := sorry
theorem dX10_contract_46 : decode cX10_contract 46 = .ok (.iconst (-1), 1) := sorry
theorem dX10_contract_47 : decode cX10_contract 47 = .ok (.putfield 102, 3) := sorry
theorem dX10_contract_50 : decode cX10_contract 50 = .ok (.iconst (-1), 1) := sorry
theorem dX10_contract_51 : decode cX10_contract 51 = .ok (.ireturn, 1) := sorry
theorem dX10_contract_52 : decode cX10_contract 52 = .ok (.aload_n 0, 1) := sorry
theorem dX10_contract_53 : decode cX10_contract 53 = .ok (.getfield 32, 3) := sorry
theorem dX10_contract_56 : decode cX10_contract 56 = .ok (.aload_n 0, 1) := sorry
theorem dX10_contract_57 : decode cX10_contract 57 = .ok (.getfield 92, 3) := sorry
theorem dX10_contract_60 : decode cX10_contract 60 = .ok (.aaload, 1) := sorry
theorem dX10_contract_61 : decode cX10_contract 61 = .ok (.astore_n 2, 1) := sorry
theorem dX10_contract_62 : decode cX10_contract 62 = .ok (.aload_n 2, 1) := sorry
theorem dX10_contract_63 : decode cX10_contract 63 = .ok (.aload_n 0, 1) := sorry
theorem dX10_contract_64 : decode cX10_contract 64 = .ok (.getfield 23, 3) := sorry
theorem dX10_contract_67 : decode cX10_contract 67 = .ok (.getfield 99, 3) := sorry
theorem dX10_contract_70 : decode cX10_contract 70 = .ok (.invokevirtual 105, 3) := sorry
theorem dX10_contract_73 : decode cX10_contract 73 = .ok (.aload_n 0, 1) := sorry
theorem dX10_contract_74 : decode cX10_contract 74 = .ok (.getfield 16, 3) := sorry
theorem dX10_contract_77 : decode cX10_contract 77 = .ok (.aload_n 0, 1) := sorry
theorem dX10_contract_78 : decode cX10_contract 78 = .ok (.getfield 9, 3) := sorry
theorem dX10_contract_81 : decode cX10_contract 81 = .ok (.iload_n 1, 1) := sorry
theorem dX10_contract_82 : decode cX10_contract 82 = .ok (.aload_n 2, 1) := sorry
theorem dX10_contract_83 : decode cX10_contract 83 = .ok (.invokevirtual 88, 3) := sorry
theorem dX10_contract_86 : decode cX10_contract 86 = .ok (.istore_n 3, 1) := sorry
theorem dX10_contract_87 : decode cX10_contract 87 = .ok (.iload_n 3, 1) := sorry
theorem dX10_contract_88 : decode cX10_contract 88 = .ok (.ifCond .eq 8, 3) := sorry
theorem dX10_contract_91 : decode cX10_contract 91 = .ok (.iload_n 3, 1) := sorry
theorem dX10_contract_92 : decode cX10_contract 92 = .ok (.bipush 10, 2) := sorry
theorem dX10_contract_94 : decode cX10_contract 94 = .ok (.isub, 1) := sorry
theorem dX10_contract_95 : decode cX10_contract 95 = .ok (.ireturn, 1) := sorry
theorem dX10_contract_96 : decode cX10_contract 96 = .ok (.aload_n 0, 1) := sorry
theorem dX10_contract_97 : decode cX10_contract 97 = .ok (.dup, 1) := sorry
theorem dX10_contract_98 : decode cX10_contract 98 = .ok (.getfield 92, 3) := sorry
theorem dX10_contract_101 : decode cX10_contract 101 = .ok (.iconst 1, 1) := sorry
theorem dX10_contract_102 : decode cX10_contract 102 = .ok (.iadd, 1) := sorry
theorem dX10_contract_103 : decode cX10_contract 103 = .ok (.putfield 92, 3) := sorry
theorem dX10_contract_106 : decode cX10_contract 106 = .ok (.aload_n 0, 1) := sorry
theorem dX10_contract_107 : decode cX10_contract 107 = .ok (.getfield 92, 3) := sorry
theorem dX10_contract_110 : decode cX10_contract 110 = .ok (.iconst 1, 1) := sorry
theorem dX10_contract_111 : decode cX10_contract 111 = .ok (.isub, 1) := sorry
theorem dX10_contract_112 : decode cX10_contract 112 = .ok (.ireturn, 1) := sorry
theorem dX10_fault_0 : decode cX10_fault 0 = .ok (.aload_n 0, 1) := sorry
theorem dX10_fault_1 : decode cX10_fault 1 = .ok (.getfield 16, 3) := sorry
theorem dX10_fault_4 : decode cX10_fault 4 = .ok (.getfield 102, 3) := sorry
theorem dX10_fault_7 : decode cX10_fault 7 = .ok (.ireturn, 1) := sorry
set_option maxRecDepth 20000 in
theorem ggX10_told_X10_within : GoodIn wsX10_told wsX10_within := sorry
set_option maxRecDepth 20000 in
theorem gX10_told_X10_within : GoodIn wsX10_told (va_wsS RX10 107 yX10_within wsX10_within) := sorry
set_option maxRecDepth 20000 in
theorem ggX10_told_X10_demand : GoodIn wsX10_told wsX10_demand := sorry
set_option maxRecDepth 20000 in
theorem gX10_told_X10_demand : GoodIn wsX10_told (wsV RX10 81 RX10 yX10_demand wsX10_demand) := sorry
theorem dX10_told_0 : decode cX10_told 0 = .ok (.aload_n 0, 1) := sorry
theorem dX10_told_1 : decode cX10_told 1 = .ok (.iload_n 1, 1) := sorry
theorem dX10_told_2 : decode cX10_told 2 = .ok (.iconst 0, 1) := sorry
theorem dX10_told_3 : decode cX10_told 3 = .ok (.iconst 4, 1) := sorry
theorem dX10_told_4 : decode cX10_told 4 = .ok (.invokestatic 107, 3) := sorry
theorem dX10_told_7 : decode cX10_told 7 = .ok (.invokevirtual 81, 3) := sorry
theorem dX10_told_10 : decode cX10_told 10 = .ok (.aload_n 0, 1) := sorry
theorem dX10_told_11 : decode cX10_told 11 = .ok (.getfield 39, 3) := sorry
theorem dX10_told_14 : decode cX10_told 14 = .ok (.getfield 66, 3) := sorry
theorem dX10_told_17 : decode cX10_told 17 = .ok (.astore_n 2, 1) := sorry
theorem dX10_told_18 : decode cX10_told 18 = .ok (.aload_n 2, 1) := sorry
theorem dX10_told_19 : decode cX10_told 19 = .ok (.getfield 111, 3) := sorry
theorem dX10_told_22 : decode cX10_told 22 = .ok (.bipush 10, 2) := sorry
theorem dX10_told_24 : decode cX10_told 24 = .ok (.iaload, 1) := sorry
theorem dX10_told_25 : decode cX10_told 25 = .ok (.istore_n 3, 1) := sorry
theorem dX10_told_26 : decode cX10_told 26 = .ok (.iload_n 1, 1) := sorry
theorem dX10_told_27 : decode cX10_told 27 = .ok (.tableswitch 49 0 3 #[29, 37, 42, 47], 29) := sorry
theorem dX10_told_56 : decode cX10_told 56 = .ok (.aload_n 0, 1) := sorry
theorem dX10_told_57 : decode cX10_told 57 = .ok (.getfield 23, 3) := sorry
theorem dX10_told_60 : decode cX10_told 60 = .ok (.getfield 99, 3) := sorry
theorem dX10_told_63 : decode cX10_told 63 = .ok (.ireturn, 1) := sorry
theorem dX10_told_64 : decode cX10_told 64 = .ok (.aload_n 0, 1) := sorry
theorem dX10_told_65 : decode cX10_told 65 = .ok (.getfield 92, 3) := sorry
theorem dX10_told_68 : decode cX10_told 68 = .ok (.ireturn, 1) := sorry
theorem dX10_told_69 : decode cX10_told 69 = .ok (.aload_n 2, 1) := sorry
theorem dX10_told_70 : decode cX10_told 70 = .ok (.getfield 114, 3) := sorry
theorem dX10_told_73 : decode cX10_told 73 = .ok (.ireturn, 1) := sorry
theorem dX10_told_74 : decode cX10_told 74 = .ok (.iload_n 3, 1) := sorry
theorem dX10_told_75 : decode cX10_told 75 = .ok (.ireturn, 1) := sorry
theorem dX10_told_76 : decode cX10_told 76 = .ok (.iload_n 3, 1) := sorry
theorem dX10_told_77 : decode cX10_told 77 = .ok (.iconst (-1), 1) := sorry
theorem dX10_told_78 : decode cX10_told 78 = .ok (.if_icmp .ne 7, 3) := sorry
theorem dX10_told_81 : decode cX10_told 81 = .ok (.iconst (-1), 1) := sorry
theorem dX10_told_82 : decode cX10_told 82 = .ok (.goto 15, 3) := sorry
theorem dX10_told_85 : decode cX10_told 85 = .ok (.aload_n 2, 1) := sorry
theorem dX10_told_86 : decode cX10_told 86 = .ok (.getfield 114, 3) := sorry
theorem dX10_told_89 : decode cX10_told 89 = .ok (.aload_n 2, 1) := sorry
theorem dX10_told_90 : decode cX10_told 90 = .ok (.getfield 111, 3) := sorry
theorem dX10_told_93 : decode cX10_told 93 = .ok (.bipush 11, 2) := sorry
theorem dX10_told_95 : decode cX10_told 95 = .ok (.iaload, 1) := sorry
theorem dX10_told_96 : decode cX10_told 96 = .ok (.isub, 1) := sorry
theorem dX10_told_97 : decode cX10_told 97 = .ok (.ireturn, 1) := sorry
set_option maxRecDepth 20000 in
theorem ggX10_wall_X10_demandWall : GoodIn wsX10_wall wsX10_demandWall := sorry
set_option maxRecDepth 20000 in
theorem gX10_wall_X10_demandWall : GoodIn wsX10_wall (wsV RX10 117 RX10 yX10_demandWall wsX10_demandWall) := sorry
set_option maxRecDepth 20000 in
theorem ggX10_wall_X10_within : GoodIn wsX10_wall wsX10_within := sorry
set_option maxRecDepth 20000 in
theorem gX10_wall_X10_within : GoodIn wsX10_wall (va_wsS RX10 107 yX10_within wsX10_within) := sorry
set_option maxRecDepth 20000 in
theorem ggX10_wall_X10_demand : GoodIn wsX10_wall wsX10_demand := sorry
set_option maxRecDepth 20000 in
theorem gX10_wall_X10_demand : GoodIn wsX10_wall (wsV RX10 81 RX10 yX10_demand wsX10_demand) := sorry
theorem dX10_wall_0 : decode cX10_wall 0 = .ok (.aload_n 0, 1) := sorry
theorem dX10_wall_1 : decode cX10_wall 1 = .ok (.iload_n 1, 1) := sorry
theorem dX10_wall_2 : decode cX10_wall 2 = .ok (.invokevirtual 117, 3) := sorry
theorem dX10_wall_5 : decode cX10_wall 5 = .ok (.aload_n 0, 1) := sorry
theorem dX10_wall_6 : decode cX10_wall 6 = .ok (.iload_n 2, 1) := sorry
theorem dX10_wall_7 : decode cX10_wall 7 = .ok (.iconst 0, 1) := sorry
theorem dX10_wall_8 : decode cX10_wall 8 = .ok (.iconst 3, 1) := sorry
theorem dX10_wall_9 : decode cX10_wall 9 = .ok (.invokestatic 107, 3) := sorry
theorem dX10_wall_12 : decode cX10_wall 12 = .ok (.invokevirtual 81, 3) := sorry
theorem dX10_wall_15 : decode cX10_wall 15 = .ok (.iload_n 2, 1) := sorry
theorem dX10_wall_16 : decode cX10_wall 16 = .ok (.tableswitch 64 0 2 #[28, 38, 54], 28) := sorry
theorem dX10_wall_44 : decode cX10_wall 44 = .ok (.aload_n 0, 1) := sorry
theorem dX10_wall_45 : decode cX10_wall 45 = .ok (.getfield 23, 3) := sorry
theorem dX10_wall_48 : decode cX10_wall 48 = .ok (.getfield 120, 3) := sorry
theorem dX10_wall_51 : decode cX10_wall 51 = .ok (.iload_n 1, 1) := sorry
theorem dX10_wall_52 : decode cX10_wall 52 = .ok (.iaload, 1) := sorry
theorem dX10_wall_53 : decode cX10_wall 53 = .ok (.ireturn, 1) := sorry
theorem dX10_wall_54 : decode cX10_wall 54 = .ok (.aload_n 0, 1) := sorry
theorem dX10_wall_55 : decode cX10_wall 55 = .ok (.getfield 39, 3) := sorry
theorem dX10_wall_58 : decode cX10_wall 58 = .ok (.getfield 66, 3) := sorry
theorem dX10_wall_61 : decode cX10_wall 61 = .ok (.getfield 111, 3) := sorry
theorem dX10_wall_64 : decode cX10_wall 64 = .ok (.bipush 12, 2) := sorry
theorem dX10_wall_66 : decode cX10_wall 66 = .ok (.iload_n 1, 1) := sorry
theorem dX10_wall_67 : decode cX10_wall 67 = .ok (.iadd, 1) := sorry
theorem dX10_wall_68 : decode cX10_wall 68 = .ok (.iaload, 1) := sorry
theorem dX10_wall_69 : decode cX10_wall 69 = .ok (.ireturn, 1) := sorry
theorem dX10_wall_70 : decode cX10_wall 70 = .ok (.aload_n 0, 1) := sorry
theorem dX10_wall_71 : decode cX10_wall 71 = .ok (.getfield 23, 3) := sorry
theorem dX10_wall_74 : decode cX10_wall 74 = .ok (.getfield 123, 3) := sorry
theorem dX10_wall_77 : decode cX10_wall 77 = .ok (.iload_n 1, 1) := sorry
theorem dX10_wall_78 : decode cX10_wall 78 = .ok (.iaload, 1) := sorry
theorem dX10_wall_79 : decode cX10_wall 79 = .ok (.ireturn, 1) := sorry
theorem dX10_wall_80 : decode cX10_wall 80 = .ok (.aload_n 0, 1) := sorry
theorem dX10_wall_81 : decode cX10_wall 81 = .ok (.getfield 39, 3) := sorry
theorem dX10_wall_84 : decode cX10_wall 84 = .ok (.getfield 66, 3) := sorry
theorem dX10_wall_87 : decode cX10_wall 87 = .ok (.getfield 111, 3) := sorry
theorem dX10_wall_90 : decode cX10_wall 90 = .ok (.bipush 18, 2) := sorry
theorem dX10_wall_92 : decode cX10_wall 92 = .ok (.iload_n 1, 1) := sorry
theorem dX10_wall_93 : decode cX10_wall 93 = .ok (.iadd, 1) := sorry
theorem dX10_wall_94 : decode cX10_wall 94 = .ok (.iaload, 1) := sorry
theorem dX10_wall_95 : decode cX10_wall 95 = .ok (.ireturn, 1) := sorry
set_option maxRecDepth 20000 in
theorem ggX10_rule_X10_demandContract : GoodIn wsX10_rule wsX10_demandContract := sorry
set_option maxRecDepth 20000 in
theorem gX10_rule_X10_demandContract : GoodIn wsX10_rule (wsV RX10 126 RX10 yX10_demandContract wsX10_demandContract) := sorry
set_option maxRecDepth 20000 in
theorem ggX10_rule_X10_within : GoodIn wsX10_rule wsX10_within := sorry
set_option maxRecDepth 20000 in
theorem gX10_rule_X10_within : GoodIn wsX10_rule (va_wsS RX10 107 yX10_within wsX10_within) := sorry
set_option maxRecDepth 20000 in
theorem ggX10_rule_X10_demand : GoodIn wsX10_rule wsX10_demand := sorry
set_option maxRecDepth 20000 in
theorem gX10_rule_X10_demand : GoodIn wsX10_rule (wsV RX10 81 RX10 yX10_demand wsX10_demand) := sorry
set_option maxRecDepth 20000 in
theorem ggX10_rule_X5_answer : GoodIn wsX10_rule wsX5_answer := sorry
set_option maxRecDepth 20000 in
theorem gX10_rule_X5_answer : GoodIn wsX10_rule (wsV RX10 129 RX5 yX5_answer wsX5_answer) := sorry
theorem dX10_rule_0 : decode cX10_rule 0 = .ok (.aload_n 0, 1) := sorry
theorem dX10_rule_1 : decode cX10_rule 1 = .ok (.iload_n 1, 1) := sorry
theorem dX10_rule_2 : decode cX10_rule 2 = .ok (.invokevirtual 126, 3) := sorry
theorem dX10_rule_5 : decode cX10_rule 5 = .ok (.aload_n 0, 1) := sorry
theorem dX10_rule_6 : decode cX10_rule 6 = .ok (.iload_n 2, 1) := sorry
theorem dX10_rule_7 : decode cX10_rule 7 = .ok (.iconst 0, 1) := sorry
theorem dX10_rule_8 : decode cX10_rule 8 = .ok (.bipush 6, 2) := sorry
theorem dX10_rule_10 : decode cX10_rule 10 = .ok (.invokestatic 107, 3) := sorry
theorem dX10_rule_13 : decode cX10_rule 13 = .ok (.invokevirtual 81, 3) := sorry
theorem dX10_rule_16 : decode cX10_rule 16 = .ok (.aload_n 0, 1) := sorry
theorem dX10_rule_17 : decode cX10_rule 17 = .ok (.getfield 32, 3) := sorry
theorem dX10_rule_20 : decode cX10_rule 20 = .ok (.iload_n 1, 1) := sorry
theorem dX10_rule_21 : decode cX10_rule 21 = .ok (.aaload, 1) := sorry
theorem dX10_rule_22 : decode cX10_rule 22 = .ok (.iload_n 2, 1) := sorry
theorem dX10_rule_23 : decode cX10_rule 23 = .ok (.invokevirtual 129, 3) := sorry
theorem dX10_rule_26 : decode cX10_rule 26 = .ok (.ireturn, 1) := sorry
set_option maxRecDepth 20000 in
theorem ggX10_wants_X10_within : GoodIn wsX10_wants wsX10_within := sorry
set_option maxRecDepth 20000 in
theorem gX10_wants_X10_within : GoodIn wsX10_wants (va_wsS RX10 107 yX10_within wsX10_within) := sorry
set_option maxRecDepth 20000 in
theorem ggX10_wants_X10_demand : GoodIn wsX10_wants wsX10_demand := sorry
set_option maxRecDepth 20000 in
theorem gX10_wants_X10_demand : GoodIn wsX10_wants (wsV RX10 81 RX10 yX10_demand wsX10_demand) := sorry
set_option maxRecDepth 20000 in
theorem ggX10_wants_X6_wanted : GoodIn wsX10_wants wsX6_wanted := sorry
set_option maxRecDepth 20000 in
theorem gX10_wants_X6_wanted : GoodIn wsX10_wants (wsV RX10 133 RX6 yX6_wanted wsX6_wanted) := sorry
theorem dX10_wants_0 : decode cX10_wants 0 = .ok (.aload_n 0, 1) := sorry
theorem dX10_wants_1 : decode cX10_wants 1 = .ok (.iload_n 1, 1) := sorry
theorem dX10_wants_2 : decode cX10_wants 2 = .ok (.iconst 0, 1) := sorry
theorem dX10_wants_3 : decode cX10_wants 3 = .ok (.bipush 9, 2) := sorry
theorem dX10_wants_5 : decode cX10_wants 5 = .ok (.invokestatic 107, 3) := sorry
theorem dX10_wants_8 : decode cX10_wants 8 = .ok (.ifCond .eq 17, 3) := sorry
theorem dX10_wants_11 : decode cX10_wants 11 = .ok (.iload_n 2, 1) := sorry
theorem dX10_wants_12 : decode cX10_wants 12 = .ok (.iconst 0, 1) := sorry
theorem dX10_wants_13 : decode cX10_wants 13 = .ok (.bipush 99, 2) := sorry
theorem dX10_wants_15 : decode cX10_wants 15 = .ok (.invokestatic 107, 3) := sorry
theorem dX10_wants_18 : decode cX10_wants 18 = .ok (.ifCond .eq 7, 3) := sorry
theorem dX10_wants_21 : decode cX10_wants 21 = .ok (.iconst 1, 1) := sorry
theorem dX10_wants_22 : decode cX10_wants 22 = .ok (.goto 4, 3) := sorry
theorem dX10_wants_25 : decode cX10_wants 25 = .ok (.iconst 0, 1) := sorry
theorem dX10_wants_26 : decode cX10_wants 26 = .ok (.invokevirtual 81, 3) := sorry
theorem dX10_wants_29 : decode cX10_wants 29 = .ok (.aload_n 0, 1) := sorry
theorem dX10_wants_30 : decode cX10_wants 30 = .ok (.getfield 23, 3) := sorry
theorem dX10_wants_33 : decode cX10_wants 33 = .ok (.iload_n 1, 1) := sorry
theorem dX10_wants_34 : decode cX10_wants 34 = .ok (.iload_n 2, 1) := sorry
theorem dX10_wants_35 : decode cX10_wants 35 = .ok (.invokevirtual 133, 3) := sorry
theorem dX10_wants_38 : decode cX10_wants 38 = .ok (.ireturn, 1) := sorry
set_option maxRecDepth 20000 in
theorem ggX10_sign_X10_demandContractOrNone : GoodIn wsX10_sign wsX10_demandContractOrNone := sorry
set_option maxRecDepth 20000 in
theorem gX10_sign_X10_demandContractOrNone : GoodIn wsX10_sign (wsV RX10 137 RX10 yX10_demandContractOrNone wsX10_demandContractOrNone) := sorry
set_option maxRecDepth 20000 in
theorem ggX10_sign_X4_pledge : GoodIn wsX10_sign wsX4_pledge := sorry
set_option maxRecDepth 20000 in
theorem gX10_sign_X4_pledge : GoodIn wsX10_sign (wsV RX10 140 RX4 yX4_pledge wsX4_pledge) := sorry
theorem dX10_sign_0 : decode cX10_sign 0 = .ok (.aload_n 0, 1) := sorry
theorem dX10_sign_1 : decode cX10_sign 1 = .ok (.iload_n 1, 1) := sorry
theorem dX10_sign_2 : decode cX10_sign 2 = .ok (.invokevirtual 137, 3) := sorry
theorem dX10_sign_5 : decode cX10_sign 5 = .ok (.aload_n 0, 1) := sorry
theorem dX10_sign_6 : decode cX10_sign 6 = .ok (.getfield 39, 3) := sorry
theorem dX10_sign_9 : decode cX10_sign 9 = .ok (.getfield 66, 3) := sorry
theorem dX10_sign_12 : decode cX10_sign 12 = .ok (.getfield 111, 3) := sorry
theorem dX10_sign_15 : decode cX10_sign 15 = .ok (.bipush 10, 2) := sorry
theorem dX10_sign_17 : decode cX10_sign 17 = .ok (.iaload, 1) := sorry
theorem dX10_sign_18 : decode cX10_sign 18 = .ok (.istore_n 2, 1) := sorry
theorem dX10_sign_19 : decode cX10_sign 19 = .ok (.aload_n 0, 1) := sorry
theorem dX10_sign_20 : decode cX10_sign 20 = .ok (.getfield 39, 3) := sorry
theorem dX10_sign_23 : decode cX10_sign 23 = .ok (.getfield 66, 3) := sorry
theorem dX10_sign_26 : decode cX10_sign 26 = .ok (.iload_n 1, 1) := sorry
theorem dX10_sign_27 : decode cX10_sign 27 = .ok (.invokevirtual 140, 3) := sorry
theorem dX10_sign_30 : decode cX10_sign 30 = .ok (.iload_n 2, 1) := sorry
theorem dX10_sign_31 : decode cX10_sign 31 = .ok (.ireturn, 1) := sorry
set_option maxRecDepth 20000 in
theorem ggX10_months_X10_within : GoodIn wsX10_months wsX10_within := sorry
set_option maxRecDepth 20000 in
theorem gX10_months_X10_within : GoodIn wsX10_months (va_wsS RX10 107 yX10_within wsX10_within) := sorry
set_option maxRecDepth 20000 in
theorem ggX10_months_X10_demand : GoodIn wsX10_months wsX10_demand := sorry
set_option maxRecDepth 20000 in
theorem gX10_months_X10_demand : GoodIn wsX10_months (wsV RX10 81 RX10 yX10_demand wsX10_demand) := sorry
set_option maxRecDepth 20000 in
theorem ggX10_months_X0_keep : GoodIn wsX10_months wsX0_keep := sorry
set_option maxRecDepth 20000 in
theorem gX10_months_X0_keep : GoodIn wsX10_months (wsV RX10 147 RX0 yX0_keep wsX0_keep) := sorry
set_option maxRecDepth 20000 in
theorem ggX10_months_X10_inForce : GoodIn wsX10_months wsX10_inForce := sorry
set_option maxRecDepth 20000 in
theorem gX10_months_X10_inForce : GoodIn wsX10_months (wsV RX10 153 RX10 yX10_inForce wsX10_inForce) := sorry
set_option maxRecDepth 20000 in
theorem ggX10_months_X4_pass : GoodIn wsX10_months wsX4_pass := sorry
set_option maxRecDepth 20000 in
theorem gX10_months_X4_pass : GoodIn wsX10_months (wsV RX10 157 RX4 yX4_pass wsX4_pass) := sorry
set_option maxRecDepth 20000 in
theorem ggX10_months_X0_lead : GoodIn wsX10_months wsX0_lead := sorry
set_option maxRecDepth 20000 in
theorem gX10_months_X0_lead : GoodIn wsX10_months (wsV RX10 161 RX0 yX0_lead wsX0_lead) := sorry
theorem dX10_months_0 : decode cX10_months 0 = .ok (.aload_n 0, 1) := sorry
theorem dX10_months_1 : decode cX10_months 1 = .ok (.iload_n 1, 1) := sorry
theorem dX10_months_2 : decode cX10_months 2 = .ok (.iconst 1, 1) := sorry
theorem dX10_months_3 : decode cX10_months 3 = .ok (.bipush 120, 2) := sorry
theorem dX10_months_5 : decode cX10_months 5 = .ok (.invokestatic 107, 3) := sorry
theorem dX10_months_8 : decode cX10_months 8 = .ok (.invokevirtual 81, 3) := sorry
theorem dX10_months_11 : decode cX10_months 11 = .ok (.iconst 0, 1) := sorry
theorem dX10_months_12 : decode cX10_months 12 = .ok (.istore_n 2, 1) := sorry
theorem dX10_months_13 : decode cX10_months 13 = .ok (.iload_n 2, 1) := sorry
theorem dX10_months_14 : decode cX10_months 14 = .ok (.iload_n 1, 1) := sorry
theorem dX10_months_15 : decode cX10_months 15 = .ok (.if_icmp .ge 83, 3) := sorry
theorem dX10_months_18 : decode cX10_months 18 = .ok (.aload_n 0, 1) := sorry
theorem dX10_months_19 : decode cX10_months 19 = .ok (.getfield 39, 3) := sorry
theorem dX10_months_22 : decode cX10_months 22 = .ok (.getfield 66, 3) := sorry
theorem dX10_months_25 : decode cX10_months 25 = .ok (.getfield 114, 3) := sorry
theorem dX10_months_28 : decode cX10_months 28 = .ok (.bipush 120, 2) := sorry
theorem dX10_months_30 : decode cX10_months 30 = .ok (.if_icmp .ge 68, 3) := sorry
theorem dX10_months_33 : decode cX10_months 33 = .ok (.aload_n 0, 1) := sorry
theorem dX10_months_34 : decode cX10_months 34 = .ok (.getfield 39, 3) := sorry
theorem dX10_months_37 : decode cX10_months 37 = .ok (.getfield 143, 3) := sorry
theorem dX10_months_40 : decode cX10_months 40 = .ok (.aload_n 0, 1) := sorry
theorem dX10_months_41 : decode cX10_months 41 = .ok (.getfield 39, 3) := sorry
theorem dX10_months_44 : decode cX10_months 44 = .ok (.getfield 66, 3) := sorry
theorem dX10_months_47 : decode cX10_months 47 = .ok (.invokevirtual 147, 3) := sorry
theorem dX10_months_50 : decode cX10_months 50 = .ok (.aload_n 0, 1) := sorry
theorem dX10_months_51 : decode cX10_months 51 = .ok (.getfield 39, 3) := sorry
theorem dX10_months_54 : decode cX10_months 54 = .ok (.getfield 66, 3) := sorry
theorem dX10_months_57 : decode cX10_months 57 = .ok (.aload_n 0, 1) := sorry
theorem dX10_months_58 : decode cX10_months 58 = .ok (.getfield 23, 3) := sorry
theorem dX10_months_61 : decode cX10_months 61 = .ok (.aload_n 0, 1) := sorry
theorem dX10_months_62 : decode cX10_months 62 = .ok (.aload_n 0, 1) := sorry
theorem dX10_months_63 : decode cX10_months 63 = .ok (.getfield 39, 3) := sorry
theorem dX10_months_66 : decode cX10_months 66 = .ok (.getfield 66, 3) := sorry
theorem dX10_months_69 : decode cX10_months 69 = .ok (.invokevirtual 153, 3) := sorry
theorem dX10_months_72 : decode cX10_months 72 = .ok (.invokevirtual 157, 3) := sorry
theorem dX10_months_75 : decode cX10_months 75 = .ok (.aload_n 0, 1) := sorry
theorem dX10_months_76 : decode cX10_months 76 = .ok (.getfield 39, 3) := sorry
theorem dX10_months_79 : decode cX10_months 79 = .ok (.getfield 143, 3) := sorry
theorem dX10_months_82 : decode cX10_months 82 = .ok (.aload_n 0, 1) := sorry
theorem dX10_months_83 : decode cX10_months 83 = .ok (.getfield 39, 3) := sorry
theorem dX10_months_86 : decode cX10_months 86 = .ok (.getfield 66, 3) := sorry
theorem dX10_months_89 : decode cX10_months 89 = .ok (.invokevirtual 161, 3) := sorry
theorem dX10_months_92 : decode cX10_months 92 = .ok (.iinc 2 1, 3) := sorry
theorem dX10_months_95 : decode cX10_months 95 = .ok (.goto (-82), 3) := sorry
theorem dX10_months_98 : decode cX10_months 98 = .ok (.iload_n 2, 1) := sorry
theorem dX10_months_99 : decode cX10_months 99 = .ok (.ireturn, 1) := sorry
set_option maxRecDepth 20000 in
theorem ggX10_undo_X10_within : GoodIn wsX10_undo wsX10_within := sorry
set_option maxRecDepth 20000 in
theorem gX10_undo_X10_within : GoodIn wsX10_undo (va_wsS RX10 107 yX10_within wsX10_within) := sorry
set_option maxRecDepth 20000 in
theorem ggX10_undo_X10_demand : GoodIn wsX10_undo wsX10_demand := sorry
set_option maxRecDepth 20000 in
theorem gX10_undo_X10_demand : GoodIn wsX10_undo (wsV RX10 81 RX10 yX10_demand wsX10_demand) := sorry
set_option maxRecDepth 20000 in
theorem ggX10_undo_X0_giveBack : GoodIn wsX10_undo wsX0_giveBack := sorry
set_option maxRecDepth 20000 in
theorem gX10_undo_X0_giveBack : GoodIn wsX10_undo (wsV RX10 169 RX0 yX0_giveBack wsX0_giveBack) := sorry
theorem dX10_undo_0 : decode cX10_undo 0 = .ok (.aload_n 0, 1) := sorry
theorem dX10_undo_1 : decode cX10_undo 1 = .ok (.iload_n 1, 1) := sorry
theorem dX10_undo_2 : decode cX10_undo 2 = .ok (.iconst 1, 1) := sorry
theorem dX10_undo_3 : decode cX10_undo 3 = .ok (.bipush 120, 2) := sorry
theorem dX10_undo_5 : decode cX10_undo 5 = .ok (.invokestatic 107, 3) := sorry
theorem dX10_undo_8 : decode cX10_undo 8 = .ok (.invokevirtual 81, 3) := sorry
theorem dX10_undo_11 : decode cX10_undo 11 = .ok (.iload_n 1, 1) := sorry
theorem dX10_undo_12 : decode cX10_undo 12 = .ok (.aload_n 0, 1) := sorry
theorem dX10_undo_13 : decode cX10_undo 13 = .ok (.getfield 39, 3) := sorry
theorem dX10_undo_16 : decode cX10_undo 16 = .ok (.getfield 66, 3) := sorry
theorem dX10_undo_19 : decode cX10_undo 19 = .ok (.getfield 114, 3) := sorry
theorem dX10_undo_22 : decode cX10_undo 22 = .ok (.invokestatic 164, 3) := sorry
theorem dX10_undo_25 : decode cX10_undo 25 = .ok (.istore_n 2, 1) := sorry
theorem dX10_undo_26 : decode cX10_undo 26 = .ok (.iload_n 2, 1) := sorry
theorem dX10_undo_27 : decode cX10_undo 27 = .ok (.ifCond .le 32, 3) := sorry
theorem dX10_undo_30 : decode cX10_undo 30 = .ok (.aload_n 0, 1) := sorry
theorem dX10_undo_31 : decode cX10_undo 31 = .ok (.getfield 39, 3) := sorry
theorem dX10_undo_34 : decode cX10_undo 34 = .ok (.getfield 143, 3) := sorry
theorem dX10_undo_37 : decode cX10_undo 37 = .ok (.aload_n 0, 1) := sorry
theorem dX10_undo_38 : decode cX10_undo 38 = .ok (.getfield 39, 3) := sorry
theorem dX10_undo_41 : decode cX10_undo 41 = .ok (.getfield 66, 3) := sorry
theorem dX10_undo_44 : decode cX10_undo 44 = .ok (.aload_n 0, 1) := sorry
theorem dX10_undo_45 : decode cX10_undo 45 = .ok (.getfield 39, 3) := sorry
theorem dX10_undo_48 : decode cX10_undo 48 = .ok (.getfield 66, 3) := sorry
theorem dX10_undo_51 : decode cX10_undo 51 = .ok (.getfield 114, 3) := sorry
theorem dX10_undo_54 : decode cX10_undo 54 = .ok (.iload_n 2, 1) := sorry
theorem dX10_undo_55 : decode cX10_undo 55 = .ok (.isub, 1) := sorry
theorem dX10_undo_56 : decode cX10_undo 56 = .ok (.invokevirtual 169, 3) := sorry
theorem dX10_undo_59 : decode cX10_undo 59 = .ok (.iload_n 2, 1) := sorry
theorem dX10_undo_60 : decode cX10_undo 60 = .ok (.ireturn, 1) := sorry
set_option maxRecDepth 20000 in
theorem ggX10_sums_X10_within : GoodIn wsX10_sums wsX10_within := sorry
set_option maxRecDepth 20000 in
theorem gX10_sums_X10_within : GoodIn wsX10_sums (va_wsS RX10 107 yX10_within wsX10_within) := sorry
set_option maxRecDepth 20000 in
theorem ggX10_sums_X10_demand : GoodIn wsX10_sums wsX10_demand := sorry
set_option maxRecDepth 20000 in
theorem gX10_sums_X10_demand : GoodIn wsX10_sums (wsV RX10 81 RX10 yX10_demand wsX10_demand) := sorry
theorem dX10_sums_0 : decode cX10_sums 0 = .ok (.aload_n 0, 1) := sorry
theorem dX10_sums_1 : decode cX10_sums 1 = .ok (.iload_n 1, 1) := sorry
theorem dX10_sums_2 : decode cX10_sums 2 = .ok (.iconst 0, 1) := sorry
theorem dX10_sums_3 : decode cX10_sums 3 = .ok (.bipush 9, 2) := sorry
theorem dX10_sums_5 : decode cX10_sums 5 = .ok (.invokestatic 107, 3) := sorry
theorem dX10_sums_8 : decode cX10_sums 8 = .ok (.invokevirtual 81, 3) := sorry
theorem dX10_sums_11 : decode cX10_sums 11 = .ok (.aload_n 0, 1) := sorry
theorem dX10_sums_12 : decode cX10_sums 12 = .ok (.getfield 39, 3) := sorry
theorem dX10_sums_15 : decode cX10_sums 15 = .ok (.getfield 66, 3) := sorry
theorem dX10_sums_18 : decode cX10_sums 18 = .ok (.getfield 111, 3) := sorry
theorem dX10_sums_21 : decode cX10_sums 21 = .ok (.iload_n 1, 1) := sorry
theorem dX10_sums_22 : decode cX10_sums 22 = .ok (.iaload, 1) := sorry
theorem dX10_sums_23 : decode cX10_sums 23 = .ok (.ireturn, 1) := sorry
set_option maxRecDepth 20000 in
theorem ggX10_corks_X10_demandWall : GoodIn wsX10_corks wsX10_demandWall := sorry
set_option maxRecDepth 20000 in
theorem gX10_corks_X10_demandWall : GoodIn wsX10_corks (wsV RX10 117 RX10 yX10_demandWall wsX10_demandWall) := sorry
set_option maxRecDepth 20000 in
theorem ggX10_corks_X10_within : GoodIn wsX10_corks wsX10_within := sorry
set_option maxRecDepth 20000 in
theorem gX10_corks_X10_within : GoodIn wsX10_corks (va_wsS RX10 107 yX10_within wsX10_within) := sorry
set_option maxRecDepth 20000 in
theorem ggX10_corks_X10_demand : GoodIn wsX10_corks wsX10_demand := sorry
set_option maxRecDepth 20000 in
theorem gX10_corks_X10_demand : GoodIn wsX10_corks (wsV RX10 81 RX10 yX10_demand wsX10_demand) := sorry
set_option maxRecDepth 20000 in
theorem ggX10_corks_X0_shotAt : GoodIn wsX10_corks wsX0_shotAt := sorry
set_option maxRecDepth 20000 in
theorem gX10_corks_X0_shotAt : GoodIn wsX10_corks (wsV RX10 173 RX0 yX0_shotAt wsX0_shotAt) := sorry
theorem dX10_corks_0 : decode cX10_corks 0 = .ok (.aload_n 0, 1) := sorry
theorem dX10_corks_1 : decode cX10_corks 1 = .ok (.iload_n 2, 1) := sorry
theorem dX10_corks_2 : decode cX10_corks 2 = .ok (.invokevirtual 117, 3) := sorry
theorem dX10_corks_5 : decode cX10_corks 5 = .ok (.aload_n 0, 1) := sorry
theorem dX10_corks_6 : decode cX10_corks 6 = .ok (.iload_n 1, 1) := sorry
theorem dX10_corks_7 : decode cX10_corks 7 = .ok (.iconst 0, 1) := sorry
theorem dX10_corks_8 : decode cX10_corks 8 = .ok (.bipush 119, 2) := sorry
theorem dX10_corks_10 : decode cX10_corks 10 = .ok (.invokestatic 107, 3) := sorry
theorem dX10_corks_13 : decode cX10_corks 13 = .ok (.invokevirtual 81, 3) := sorry
theorem dX10_corks_16 : decode cX10_corks 16 = .ok (.iload_n 1, 1) := sorry
theorem dX10_corks_17 : decode cX10_corks 17 = .ok (.aload_n 0, 1) := sorry
theorem dX10_corks_18 : decode cX10_corks 18 = .ok (.getfield 39, 3) := sorry
theorem dX10_corks_21 : decode cX10_corks 21 = .ok (.getfield 66, 3) := sorry
theorem dX10_corks_24 : decode cX10_corks 24 = .ok (.getfield 114, 3) := sorry
theorem dX10_corks_27 : decode cX10_corks 27 = .ok (.if_icmp .ge 18, 3) := sorry
theorem dX10_corks_30 : decode cX10_corks 30 = .ok (.aload_n 0, 1) := sorry
theorem dX10_corks_31 : decode cX10_corks 31 = .ok (.getfield 39, 3) := sorry
theorem dX10_corks_34 : decode cX10_corks 34 = .ok (.getfield 143, 3) := sorry
theorem dX10_corks_37 : decode cX10_corks 37 = .ok (.iload_n 1, 1) := sorry
theorem dX10_corks_38 : decode cX10_corks 38 = .ok (.iload_n 2, 1) := sorry
theorem dX10_corks_39 : decode cX10_corks 39 = .ok (.invokevirtual 173, 3) := sorry
theorem dX10_corks_42 : decode cX10_corks 42 = .ok (.goto 4, 3) := sorry
theorem dX10_corks_45 : decode cX10_corks 45 = .ok (.iconst 0, 1) := sorry
theorem dX10_corks_46 : decode cX10_corks 46 = .ok (.ireturn, 1) := sorry
set_option maxRecDepth 20000 in
theorem ggX10_would_X10_demandContractOrNone : GoodIn wsX10_would wsX10_demandContractOrNone := sorry
set_option maxRecDepth 20000 in
theorem gX10_would_X10_demandContractOrNone : GoodIn wsX10_would (wsV RX10 137 RX10 yX10_demandContractOrNone wsX10_demandContractOrNone) := sorry
set_option maxRecDepth 20000 in
theorem ggX10_would_X10_within : GoodIn wsX10_would wsX10_within := sorry
set_option maxRecDepth 20000 in
theorem gX10_would_X10_within : GoodIn wsX10_would (va_wsS RX10 107 yX10_within wsX10_within) := sorry
set_option maxRecDepth 20000 in
theorem ggX10_would_X10_demand : GoodIn wsX10_would wsX10_demand := sorry
set_option maxRecDepth 20000 in
theorem gX10_would_X10_demand : GoodIn wsX10_would (wsV RX10 81 RX10 yX10_demand wsX10_demand) := sorry
set_option maxRecDepth 20000 in
theorem ggX10_would_X10_trySigned : GoodIn wsX10_would wsX10_trySigned := sorry
set_option maxRecDepth 20000 in
theorem gX10_would_X10_trySigned : GoodIn wsX10_would (wsV RX10 176 RX10 yX10_trySigned wsX10_trySigned) := sorry
theorem dX10_would_0 : decode cX10_would 0 = .ok (.aload_n 0, 1) := sorry
theorem dX10_would_1 : decode cX10_would 1 = .ok (.iload_n 1, 1) := sorry
theorem dX10_would_2 : decode cX10_would 2 = .ok (.invokevirtual 137, 3) := sorry
theorem dX10_would_5 : decode cX10_would 5 = .ok (.aload_n 0, 1) := sorry
theorem dX10_would_6 : decode cX10_would 6 = .ok (.iload_n 2, 1) := sorry
theorem dX10_would_7 : decode cX10_would 7 = .ok (.iconst 1, 1) := sorry
theorem dX10_would_8 : decode cX10_would 8 = .ok (.bipush 60, 2) := sorry
theorem dX10_would_10 : decode cX10_would 10 = .ok (.invokestatic 107, 3) := sorry
theorem dX10_would_13 : decode cX10_would 13 = .ok (.ifCond .eq 17, 3) := sorry
theorem dX10_would_16 : decode cX10_would 16 = .ok (.iload_n 3, 1) := sorry
theorem dX10_would_17 : decode cX10_would 17 = .ok (.iconst 0, 1) := sorry
theorem dX10_would_18 : decode cX10_would 18 = .ok (.bipush 9, 2) := sorry
theorem dX10_would_20 : decode cX10_would 20 = .ok (.invokestatic 107, 3) := sorry
theorem dX10_would_23 : decode cX10_would 23 = .ok (.ifCond .eq 7, 3) := sorry
theorem dX10_would_26 : decode cX10_would 26 = .ok (.iconst 1, 1) := sorry
theorem dX10_would_27 : decode cX10_would 27 = .ok (.goto 4, 3) := sorry
theorem dX10_would_30 : decode cX10_would 30 = .ok (.iconst 0, 1) := sorry
theorem dX10_would_31 : decode cX10_would 31 = .ok (.invokevirtual 81, 3) := sorry
theorem dX10_would_34 : decode cX10_would 34 = .ok (.aload_n 0, 1) := sorry
theorem dX10_would_35 : decode cX10_would 35 = .ok (.iload_n 1, 1) := sorry
theorem dX10_would_36 : decode cX10_would 36 = .ok (.iload_n 2, 1) := sorry
theorem dX10_would_37 : decode cX10_would 37 = .ok (.invokevirtual 176, 3) := sorry
theorem dX10_would_40 : decode cX10_would 40 = .ok (.pop, 1) := sorry
theorem dX10_would_41 : decode cX10_would 41 = .ok (.aload_n 0, 1) := sorry
theorem dX10_would_42 : decode cX10_would 42 = .ok (.getfield 50, 3) := sorry
theorem dX10_would_45 : decode cX10_would 45 = .ok (.getfield 111, 3) := sorry
theorem dX10_would_48 : decode cX10_would 48 = .ok (.iload_n 3, 1) := sorry
theorem dX10_would_49 : decode cX10_would 49 = .ok (.iaload, 1) := sorry
theorem dX10_would_50 : decode cX10_would 50 = .ok (.ireturn, 1) := sorry
set_option maxRecDepth 20000 in
theorem ggX10_best_X10_within : GoodIn wsX10_best wsX10_within := sorry
set_option maxRecDepth 20000 in
theorem gX10_best_X10_within : GoodIn wsX10_best (va_wsS RX10 107 yX10_within wsX10_within) := sorry
set_option maxRecDepth 20000 in
theorem ggX10_best_X10_demand : GoodIn wsX10_best wsX10_demand := sorry
set_option maxRecDepth 20000 in
theorem gX10_best_X10_demand : GoodIn wsX10_best (wsV RX10 81 RX10 yX10_demand wsX10_demand) := sorry
set_option maxRecDepth 20000 in
theorem ggX10_best_X10_trySigned : GoodIn wsX10_best wsX10_trySigned := sorry
set_option maxRecDepth 20000 in
theorem gX10_best_X10_trySigned : GoodIn wsX10_best (wsV RX10 176 RX10 yX10_trySigned wsX10_trySigned) := sorry
theorem dX10_best_0 : decode cX10_best 0 = .ok (.aload_n 0, 1) := sorry
theorem dX10_best_1 : decode cX10_best 1 = .ok (.iload_n 1, 1) := sorry
theorem dX10_best_2 : decode cX10_best 2 = .ok (.iconst 1, 1) := sorry
theorem dX10_best_3 : decode cX10_best 3 = .ok (.bipush 60, 2) := sorry
theorem dX10_best_5 : decode cX10_best 5 = .ok (.invokestatic 107, 3) := sorry
theorem dX10_best_8 : decode cX10_best 8 = .ok (.ifCond .eq 16, 3) := sorry
theorem dX10_best_11 : decode cX10_best 11 = .ok (.iload_n 2, 1) := sorry
theorem dX10_best_12 : decode cX10_best 12 = .ok (.iconst 0, 1) := sorry
theorem dX10_best_13 : decode cX10_best 13 = .ok (.iconst 1, 1) := sorry
theorem dX10_best_14 : decode cX10_best 14 = .ok (.invokestatic 107, 3) := sorry
theorem dX10_best_17 : decode cX10_best 17 = .ok (.ifCond .eq 7, 3) := sorry
theorem dX10_best_20 : decode cX10_best 20 = .ok (.iconst 1, 1) := sorry
theorem dX10_best_21 : decode cX10_best 21 = .ok (.goto 4, 3) := sorry
theorem dX10_best_24 : decode cX10_best 24 = .ok (.iconst 0, 1) := sorry
theorem dX10_best_25 : decode cX10_best 25 = .ok (.invokevirtual 81, 3) := sorry
theorem dX10_best_28 : decode cX10_best 28 = .ok (.iconst (-1), 1) := sorry
theorem dX10_best_29 : decode cX10_best 29 = .ok (.istore_n 3, 1) := sorry
theorem dX10_best_30 : decode cX10_best 30 = .ok (.iconst (-1), 1) := sorry
theorem dX10_best_31 : decode cX10_best 31 = .ok (.istore 4, 2) := sorry
theorem dX10_best_33 : decode cX10_best 33 = .ok (.iconst 0, 1) := sorry
theorem dX10_best_34 : decode cX10_best 34 = .ok (.istore 5, 2) := sorry
theorem dX10_best_36 : decode cX10_best 36 = .ok (.iload 5, 2) := sorry
theorem dX10_best_38 : decode cX10_best 38 = .ok (.aload_n 0, 1) := sorry
theorem dX10_best_39 : decode cX10_best 39 = .ok (.getfield 92, 3) := sorry
theorem dX10_best_42 : decode cX10_best 42 = .ok (.if_icmp .ge 32, 3) := sorry
theorem dX10_best_45 : decode cX10_best 45 = .ok (.aload_n 0, 1) := sorry
theorem dX10_best_46 : decode cX10_best 46 = .ok (.iload 5, 2) := sorry
theorem dX10_best_48 : decode cX10_best 48 = .ok (.iload_n 1, 1) := sorry
theorem dX10_best_49 : decode cX10_best 49 = .ok (.invokevirtual 176, 3) := sorry
theorem dX10_best_52 : decode cX10_best 52 = .ok (.istore 6, 2) := sorry
theorem dX10_best_54 : decode cX10_best 54 = .ok (.iload 6, 2) := sorry
theorem dX10_best_56 : decode cX10_best 56 = .ok (.iload 4, 2) := sorry
theorem dX10_best_58 : decode cX10_best 58 = .ok (.if_icmp .le 10, 3) := sorry
theorem dX10_best_61 : decode cX10_best 61 = .ok (.iload 6, 2) := sorry
theorem dX10_best_63 : decode cX10_best 63 = .ok (.istore 4, 2) := sorry
theorem dX10_best_65 : decode cX10_best 65 = .ok (.iload 5, 2) := sorry
theorem dX10_best_67 : decode cX10_best 67 = .ok (.istore_n 3, 1) := sorry
theorem dX10_best_68 : decode cX10_best 68 = .ok (.iinc 5 1, 3) := sorry
theorem dX10_best_71 : decode cX10_best 71 = .ok (.goto (-35), 3) := sorry
theorem dX10_best_74 : decode cX10_best 74 = .ok (.aload_n 0, 1) := sorry
theorem dX10_best_75 : decode cX10_best 75 = .ok (.iconst (-1), 1) := sorry
theorem dX10_best_76 : decode cX10_best 76 = .ok (.iload_n 1, 1) := sorry
theorem dX10_best_77 : decode cX10_best 77 = .ok (.invokevirtual 176, 3) := sorry
theorem dX10_best_80 : decode cX10_best 80 = .ok (.istore 5, 2) := sorry
theorem dX10_best_82 : decode cX10_best 82 = .ok (.iload 5, 2) := sorry
theorem dX10_best_84 : decode cX10_best 84 = .ok (.iload 4, 2) := sorry
theorem dX10_best_86 : decode cX10_best 86 = .ok (.if_icmp .le 9, 3) := sorry
theorem dX10_best_89 : decode cX10_best 89 = .ok (.iload 5, 2) := sorry
theorem dX10_best_91 : decode cX10_best 91 = .ok (.istore 4, 2) := sorry
theorem dX10_best_93 : decode cX10_best 93 = .ok (.iconst (-1), 1) := sorry
theorem dX10_best_94 : decode cX10_best 94 = .ok (.istore_n 3, 1) := sorry
theorem dX10_best_95 : decode cX10_best 95 = .ok (.iload_n 2, 1) := sorry
theorem dX10_best_96 : decode cX10_best 96 = .ok (.ifCond .ne 7, 3) := sorry
theorem dX10_best_99 : decode cX10_best 99 = .ok (.iload_n 3, 1) := sorry
theorem dX10_best_100 : decode cX10_best 100 = .ok (.goto 5, 3) := sorry
theorem dX10_best_103 : decode cX10_best 103 = .ok (.iload 4, 2) := sorry
theorem dX10_best_105 : decode cX10_best 105 = .ok (.ireturn, 1) := sorry
set_option maxRecDepth 20000 in
theorem ggX10_offer_X10_within : GoodIn wsX10_offer wsX10_within := sorry
set_option maxRecDepth 20000 in
theorem gX10_offer_X10_within : GoodIn wsX10_offer (va_wsS RX10 107 yX10_within wsX10_within) := sorry
set_option maxRecDepth 20000 in
theorem ggX10_offer_X10_demand : GoodIn wsX10_offer wsX10_demand := sorry
set_option maxRecDepth 20000 in
theorem gX10_offer_X10_demand : GoodIn wsX10_offer (wsV RX10 81 RX10 yX10_demand wsX10_demand) := sorry
set_option maxRecDepth 20000 in
theorem ggX10_offer_X6_wanted : GoodIn wsX10_offer wsX6_wanted := sorry
set_option maxRecDepth 20000 in
theorem gX10_offer_X6_wanted : GoodIn wsX10_offer (wsV RX10 133 RX6 yX6_wanted wsX6_wanted) := sorry
set_option maxRecDepth 20000 in
theorem ggX10_offer_X5_propose : GoodIn wsX10_offer wsX5_propose := sorry
set_option maxRecDepth 20000 in
theorem gX10_offer_X5_propose : GoodIn wsX10_offer (wsV RX10 179 RX5 yX5_propose wsX5_propose) := sorry
set_option maxRecDepth 20000 in
theorem ggX10_offer_X10_trySigned : GoodIn wsX10_offer wsX10_trySigned := sorry
set_option maxRecDepth 20000 in
theorem gX10_offer_X10_trySigned : GoodIn wsX10_offer (wsV RX10 176 RX10 yX10_trySigned wsX10_trySigned) := sorry
theorem dX10_offer_0 : decode cX10_offer 0 = .ok (.aload_n 0, 1) := sorry
theorem dX10_offer_1 : decode cX10_offer 1 = .ok (.iload_n 1, 1) := sorry
theorem dX10_offer_2 : decode cX10_offer 2 = .ok (.iconst 1, 1) := sorry
theorem dX10_offer_3 : decode cX10_offer 3 = .ok (.bipush 60, 2) := sorry
theorem dX10_offer_5 : decode cX10_offer 5 = .ok (.invokestatic 107, 3) := sorry
theorem dX10_offer_8 : decode cX10_offer 8 = .ok (.ifCond .eq 16, 3) := sorry
theorem dX10_offer_11 : decode cX10_offer 11 = .ok (.iload_n 2, 1) := sorry
theorem dX10_offer_12 : decode cX10_offer 12 = .ok (.iconst 0, 1) := sorry
theorem dX10_offer_13 : decode cX10_offer 13 = .ok (.iconst 3, 1) := sorry
theorem dX10_offer_14 : decode cX10_offer 14 = .ok (.invokestatic 107, 3) := sorry
theorem dX10_offer_17 : decode cX10_offer 17 = .ok (.ifCond .eq 7, 3) := sorry
theorem dX10_offer_20 : decode cX10_offer 20 = .ok (.iconst 1, 1) := sorry
theorem dX10_offer_21 : decode cX10_offer 21 = .ok (.goto 4, 3) := sorry
theorem dX10_offer_24 : decode cX10_offer 24 = .ok (.iconst 0, 1) := sorry
theorem dX10_offer_25 : decode cX10_offer 25 = .ok (.invokevirtual 81, 3) := sorry
theorem dX10_offer_28 : decode cX10_offer 28 = .ok (.iconst 0, 1) := sorry
theorem dX10_offer_29 : decode cX10_offer 29 = .ok (.istore_n 3, 1) := sorry
theorem dX10_offer_30 : decode cX10_offer 30 = .ok (.iconst 0, 1) := sorry
theorem dX10_offer_31 : decode cX10_offer 31 = .ok (.istore 4, 2) := sorry
theorem dX10_offer_33 : decode cX10_offer 33 = .ok (.iconst (-1), 1) := sorry
theorem dX10_offer_34 : decode cX10_offer 34 = .ok (.istore 5, 2) := sorry
theorem dX10_offer_36 : decode cX10_offer 36 = .ok (.iconst 0, 1) := sorry
theorem dX10_offer_37 : decode cX10_offer 37 = .ok (.istore 6, 2) := sorry
theorem dX10_offer_39 : decode cX10_offer 39 = .ok (.iload 6, 2) := sorry
theorem dX10_offer_41 : decode cX10_offer 41 = .ok (.bipush 9, 2) := sorry
theorem dX10_offer_43 : decode cX10_offer 43 = .ok (.if_icmp .gt 78, 3) := sorry
theorem dX10_offer_46 : decode cX10_offer 46 = .ok (.iconst 0, 1) := sorry
theorem dX10_offer_47 : decode cX10_offer 47 = .ok (.istore 7, 2) := sorry
theorem dX10_offer_49 : decode cX10_offer 49 = .ok (.iload 7, 2) := sorry
theorem dX10_offer_51 : decode cX10_offer 51 = .ok (.bipush 20, 2) := sorry
theorem dX10_offer_53 : decode cX10_offer 53 = .ok (.if_icmp .gt 62, 3) := sorry
theorem dX10_offer_56 : decode cX10_offer 56 = .ok (.aload_n 0, 1) := sorry
theorem dX10_offer_57 : decode cX10_offer 57 = .ok (.getfield 32, 3) := sorry
theorem dX10_offer_60 : decode cX10_offer 60 = .ok (.bipush 6, 2) := sorry
theorem dX10_offer_62 : decode cX10_offer 62 = .ok (.aaload, 1) := sorry
theorem dX10_offer_63 : decode cX10_offer 63 = .ok (.aload_n 0, 1) := sorry
theorem dX10_offer_64 : decode cX10_offer 64 = .ok (.getfield 23, 3) := sorry
theorem dX10_offer_67 : decode cX10_offer 67 = .ok (.iload 6, 2) := sorry
theorem dX10_offer_69 : decode cX10_offer 69 = .ok (.iload 7, 2) := sorry
theorem dX10_offer_71 : decode cX10_offer 71 = .ok (.invokevirtual 133, 3) := sorry
theorem dX10_offer_74 : decode cX10_offer 74 = .ok (.iload 6, 2) := sorry
theorem dX10_offer_76 : decode cX10_offer 76 = .ok (.iload 7, 2) := sorry
theorem dX10_offer_78 : decode cX10_offer 78 = .ok (.iload_n 1, 1) := sorry
theorem dX10_offer_79 : decode cX10_offer 79 = .ok (.invokevirtual 179, 3) := sorry
theorem dX10_offer_82 : decode cX10_offer 82 = .ok (.aload_n 0, 1) := sorry
theorem dX10_offer_83 : decode cX10_offer 83 = .ok (.bipush 6, 2) := sorry
theorem dX10_offer_85 : decode cX10_offer 85 = .ok (.iload_n 1, 1) := sorry
theorem dX10_offer_86 : decode cX10_offer 86 = .ok (.invokevirtual 176, 3) := sorry
theorem dX10_offer_89 : decode cX10_offer 89 = .ok (.istore 8, 2) := sorry
theorem dX10_offer_91 : decode cX10_offer 91 = .ok (.iload 8, 2) := sorry
theorem dX10_offer_93 : decode cX10_offer 93 = .ok (.iload 5, 2) := sorry
theorem dX10_offer_95 : decode cX10_offer 95 = .ok (.if_icmp .le 14, 3) := sorry
theorem dX10_offer_98 : decode cX10_offer 98 = .ok (.iload 8, 2) := sorry
theorem dX10_offer_100 : decode cX10_offer 100 = .ok (.istore 5, 2) := sorry
theorem dX10_offer_102 : decode cX10_offer 102 = .ok (.iload 6, 2) := sorry
theorem dX10_offer_104 : decode cX10_offer 104 = .ok (.istore_n 3, 1) := sorry
theorem dX10_offer_105 : decode cX10_offer 105 = .ok (.iload 7, 2) := sorry
theorem dX10_offer_107 : decode cX10_offer 107 = .ok (.istore 4, 2) := sorry
theorem dX10_offer_109 : decode cX10_offer 109 = .ok (.iinc 7 1, 3) := sorry
theorem dX10_offer_112 : decode cX10_offer 112 = .ok (.goto (-63), 3) := sorry
theorem dX10_offer_115 : decode cX10_offer 115 = .ok (.iinc 6 1, 3) := sorry
theorem dX10_offer_118 : decode cX10_offer 118 = .ok (.goto (-79), 3) := sorry
theorem dX10_offer_121 : decode cX10_offer 121 = .ok (.iload_n 2, 1) := sorry
theorem dX10_offer_122 : decode cX10_offer 122 = .ok (.tableswitch 42 0 2 #[26, 28, 31], 26) := sorry
theorem dX10_offer_148 : decode cX10_offer 148 = .ok (.iload_n 3, 1) := sorry
theorem dX10_offer_149 : decode cX10_offer 149 = .ok (.ireturn, 1) := sorry
theorem dX10_offer_150 : decode cX10_offer 150 = .ok (.iload 4, 2) := sorry
theorem dX10_offer_152 : decode cX10_offer 152 = .ok (.ireturn, 1) := sorry
theorem dX10_offer_153 : decode cX10_offer 153 = .ok (.aload_n 0, 1) := sorry
theorem dX10_offer_154 : decode cX10_offer 154 = .ok (.getfield 23, 3) := sorry
theorem dX10_offer_157 : decode cX10_offer 157 = .ok (.iload_n 3, 1) := sorry
theorem dX10_offer_158 : decode cX10_offer 158 = .ok (.iload 4, 2) := sorry
theorem dX10_offer_160 : decode cX10_offer 160 = .ok (.invokevirtual 133, 3) := sorry
theorem dX10_offer_163 : decode cX10_offer 163 = .ok (.ireturn, 1) := sorry
theorem dX10_offer_164 : decode cX10_offer 164 = .ok (.iload 5, 2) := sorry
theorem dX10_offer_166 : decode cX10_offer 166 = .ok (.ireturn, 1) := sorry
set_option maxRecDepth 20000 in
theorem ggX10_nearest_X10_within : GoodIn wsX10_nearest wsX10_within := sorry
set_option maxRecDepth 20000 in
theorem gX10_nearest_X10_within : GoodIn wsX10_nearest (va_wsS RX10 107 yX10_within wsX10_within) := sorry
set_option maxRecDepth 20000 in
theorem ggX10_nearest_X10_demand : GoodIn wsX10_nearest wsX10_demand := sorry
set_option maxRecDepth 20000 in
theorem gX10_nearest_X10_demand : GoodIn wsX10_nearest (wsV RX10 81 RX10 yX10_demand wsX10_demand) := sorry
set_option maxRecDepth 20000 in
theorem ggX10_nearest_X6_wanted : GoodIn wsX10_nearest wsX6_wanted := sorry
set_option maxRecDepth 20000 in
theorem gX10_nearest_X6_wanted : GoodIn wsX10_nearest (wsV RX10 133 RX6 yX6_wanted wsX6_wanted) := sorry
theorem dX10_nearest_0 : decode cX10_nearest 0 = .ok (.aload_n 0, 1) := sorry
theorem dX10_nearest_1 : decode cX10_nearest 1 = .ok (.iload_n 1, 1) := sorry
theorem dX10_nearest_2 : decode cX10_nearest 2 = .ok (.iconst 0, 1) := sorry
theorem dX10_nearest_3 : decode cX10_nearest 3 = .ok (.sipush 9999, 3) := sorry
theorem dX10_nearest_6 : decode cX10_nearest 6 = .ok (.invokestatic 107, 3) := sorry
theorem dX10_nearest_9 : decode cX10_nearest 9 = .ok (.ifCond .eq 17, 3) := sorry
theorem dX10_nearest_12 : decode cX10_nearest 12 = .ok (.iload_n 2, 1) := sorry
theorem dX10_nearest_13 : decode cX10_nearest 13 = .ok (.iconst 0, 1) := sorry
theorem dX10_nearest_14 : decode cX10_nearest 14 = .ok (.bipush 99, 2) := sorry
theorem dX10_nearest_16 : decode cX10_nearest 16 = .ok (.invokestatic 107, 3) := sorry
theorem dX10_nearest_19 : decode cX10_nearest 19 = .ok (.ifCond .eq 7, 3) := sorry
theorem dX10_nearest_22 : decode cX10_nearest 22 = .ok (.iconst 1, 1) := sorry
theorem dX10_nearest_23 : decode cX10_nearest 23 = .ok (.goto 4, 3) := sorry
theorem dX10_nearest_26 : decode cX10_nearest 26 = .ok (.iconst 0, 1) := sorry
theorem dX10_nearest_27 : decode cX10_nearest 27 = .ok (.invokevirtual 81, 3) := sorry
theorem dX10_nearest_30 : decode cX10_nearest 30 = .ok (.iconst 0, 1) := sorry
theorem dX10_nearest_31 : decode cX10_nearest 31 = .ok (.istore_n 3, 1) := sorry
theorem dX10_nearest_32 : decode cX10_nearest 32 = .ok (.iload_n 3, 1) := sorry
theorem dX10_nearest_33 : decode cX10_nearest 33 = .ok (.bipush 9, 2) := sorry
theorem dX10_nearest_35 : decode cX10_nearest 35 = .ok (.if_icmp .gt 24, 3) := sorry
theorem dX10_nearest_38 : decode cX10_nearest 38 = .ok (.aload_n 0, 1) := sorry
theorem dX10_nearest_39 : decode cX10_nearest 39 = .ok (.getfield 23, 3) := sorry
theorem dX10_nearest_42 : decode cX10_nearest 42 = .ok (.iload_n 3, 1) := sorry
theorem dX10_nearest_43 : decode cX10_nearest 43 = .ok (.iload_n 2, 1) := sorry
theorem dX10_nearest_44 : decode cX10_nearest 44 = .ok (.invokevirtual 133, 3) := sorry
theorem dX10_nearest_47 : decode cX10_nearest 47 = .ok (.iload_n 1, 1) := sorry
theorem dX10_nearest_48 : decode cX10_nearest 48 = .ok (.if_icmp .gt 5, 3) := sorry
theorem dX10_nearest_51 : decode cX10_nearest 51 = .ok (.iload_n 3, 1) := sorry
theorem dX10_nearest_52 : decode cX10_nearest 52 = .ok (.ireturn, 1) := sorry
theorem dX10_nearest_53 : decode cX10_nearest 53 = .ok (.iinc 3 1, 3) := sorry
theorem dX10_nearest_56 : decode cX10_nearest 56 = .ok (.goto (-24), 3) := sorry
theorem dX10_nearest_59 : decode cX10_nearest 59 = .ok (.iconst (-1), 1) := sorry
theorem dX10_nearest_60 : decode cX10_nearest 60 = .ok (.ireturn, 1) := sorry
set_option maxRecDepth 20000 in
theorem ggX10_stop_X10_within : GoodIn wsX10_stop wsX10_within := sorry
set_option maxRecDepth 20000 in
theorem gX10_stop_X10_within : GoodIn wsX10_stop (va_wsS RX10 107 yX10_within wsX10_within) := sorry
set_option maxRecDepth 20000 in
theorem ggX10_stop_X10_demand : GoodIn wsX10_stop wsX10_demand := sorry
set_option maxRecDepth 20000 in
theorem gX10_stop_X10_demand : GoodIn wsX10_stop (wsV RX10 81 RX10 yX10_demand wsX10_demand) := sorry
set_option maxRecDepth 20000 in
theorem ggX10_stop_X4_take : GoodIn wsX10_stop wsX4_take := sorry
set_option maxRecDepth 20000 in
theorem gX10_stop_X4_take : GoodIn wsX10_stop (wsV RX10 183 RX4 yX4_take wsX4_take) := sorry
set_option maxRecDepth 20000 in
theorem ggX10_stop_X10_passTried : GoodIn wsX10_stop wsX10_passTried := sorry
set_option maxRecDepth 20000 in
theorem gX10_stop_X10_passTried : GoodIn wsX10_stop (wsV RX10 186 RX10 yX10_passTried wsX10_passTried) := sorry
set_option maxRecDepth 20000 in
theorem ggX10_stop_X4_pledge : GoodIn wsX10_stop wsX4_pledge := sorry
set_option maxRecDepth 20000 in
theorem gX10_stop_X4_pledge : GoodIn wsX10_stop (wsV RX10 140 RX4 yX4_pledge wsX4_pledge) := sorry
theorem dX10_stop_0 : decode cX10_stop 0 = .ok (.aload_n 0, 1) := sorry
theorem dX10_stop_1 : decode cX10_stop 1 = .ok (.iload_n 1, 1) := sorry
theorem dX10_stop_2 : decode cX10_stop 2 = .ok (.iconst 1, 1) := sorry
theorem dX10_stop_3 : decode cX10_stop 3 = .ok (.bipush 60, 2) := sorry
theorem dX10_stop_5 : decode cX10_stop 5 = .ok (.invokestatic 107, 3) := sorry
theorem dX10_stop_8 : decode cX10_stop 8 = .ok (.ifCond .eq 16, 3) := sorry
theorem dX10_stop_11 : decode cX10_stop 11 = .ok (.iload_n 2, 1) := sorry
theorem dX10_stop_12 : decode cX10_stop 12 = .ok (.iconst 0, 1) := sorry
theorem dX10_stop_13 : decode cX10_stop 13 = .ok (.iconst 1, 1) := sorry
theorem dX10_stop_14 : decode cX10_stop 14 = .ok (.invokestatic 107, 3) := sorry
theorem dX10_stop_17 : decode cX10_stop 17 = .ok (.ifCond .eq 7, 3) := sorry
theorem dX10_stop_20 : decode cX10_stop 20 = .ok (.iconst 1, 1) := sorry
theorem dX10_stop_21 : decode cX10_stop 21 = .ok (.goto 4, 3) := sorry
theorem dX10_stop_24 : decode cX10_stop 24 = .ok (.iconst 0, 1) := sorry
theorem dX10_stop_25 : decode cX10_stop 25 = .ok (.invokevirtual 81, 3) := sorry
theorem dX10_stop_28 : decode cX10_stop 28 = .ok (.iconst 0, 1) := sorry
theorem dX10_stop_29 : decode cX10_stop 29 = .ok (.istore_n 3, 1) := sorry
theorem dX10_stop_30 : decode cX10_stop 30 = .ok (.iconst (-1), 1) := sorry
theorem dX10_stop_31 : decode cX10_stop 31 = .ok (.istore 4, 2) := sorry
theorem dX10_stop_33 : decode cX10_stop 33 = .ok (.iconst 0, 1) := sorry
theorem dX10_stop_34 : decode cX10_stop 34 = .ok (.istore 5, 2) := sorry
theorem dX10_stop_36 : decode cX10_stop 36 = .ok (.iload 5, 2) := sorry
theorem dX10_stop_38 : decode cX10_stop 38 = .ok (.iload_n 1, 1) := sorry
theorem dX10_stop_39 : decode cX10_stop 39 = .ok (.if_icmp .gt 73, 3) := sorry
theorem dX10_stop_42 : decode cX10_stop 42 = .ok (.aload_n 0, 1) := sorry
theorem dX10_stop_43 : decode cX10_stop 43 = .ok (.getfield 50, 3) := sorry
theorem dX10_stop_46 : decode cX10_stop 46 = .ok (.aload_n 0, 1) := sorry
theorem dX10_stop_47 : decode cX10_stop 47 = .ok (.getfield 39, 3) := sorry
theorem dX10_stop_50 : decode cX10_stop 50 = .ok (.getfield 66, 3) := sorry
theorem dX10_stop_53 : decode cX10_stop 53 = .ok (.invokevirtual 183, 3) := sorry
theorem dX10_stop_56 : decode cX10_stop 56 = .ok (.aload_n 0, 1) := sorry
theorem dX10_stop_57 : decode cX10_stop 57 = .ok (.iload 5, 2) := sorry
theorem dX10_stop_59 : decode cX10_stop 59 = .ok (.invokevirtual 186, 3) := sorry
theorem dX10_stop_62 : decode cX10_stop 62 = .ok (.aload_n 0, 1) := sorry
theorem dX10_stop_63 : decode cX10_stop 63 = .ok (.getfield 50, 3) := sorry
theorem dX10_stop_66 : decode cX10_stop 66 = .ok (.iconst (-1), 1) := sorry
theorem dX10_stop_67 : decode cX10_stop 67 = .ok (.invokevirtual 140, 3) := sorry
theorem dX10_stop_70 : decode cX10_stop 70 = .ok (.aload_n 0, 1) := sorry
theorem dX10_stop_71 : decode cX10_stop 71 = .ok (.iload_n 1, 1) := sorry
theorem dX10_stop_72 : decode cX10_stop 72 = .ok (.iload 5, 2) := sorry
theorem dX10_stop_74 : decode cX10_stop 74 = .ok (.isub, 1) := sorry
theorem dX10_stop_75 : decode cX10_stop 75 = .ok (.invokevirtual 186, 3) := sorry
theorem dX10_stop_78 : decode cX10_stop 78 = .ok (.aload_n 0, 1) := sorry
theorem dX10_stop_79 : decode cX10_stop 79 = .ok (.getfield 50, 3) := sorry
theorem dX10_stop_82 : decode cX10_stop 82 = .ok (.getfield 111, 3) := sorry
theorem dX10_stop_85 : decode cX10_stop 85 = .ok (.iconst 0, 1) := sorry
theorem dX10_stop_86 : decode cX10_stop 86 = .ok (.iaload, 1) := sorry
theorem dX10_stop_87 : decode cX10_stop 87 = .ok (.iload 4, 2) := sorry
theorem dX10_stop_89 : decode cX10_stop 89 = .ok (.if_icmp .le 17, 3) := sorry
theorem dX10_stop_92 : decode cX10_stop 92 = .ok (.aload_n 0, 1) := sorry
theorem dX10_stop_93 : decode cX10_stop 93 = .ok (.getfield 50, 3) := sorry
theorem dX10_stop_96 : decode cX10_stop 96 = .ok (.getfield 111, 3) := sorry
theorem dX10_stop_99 : decode cX10_stop 99 = .ok (.iconst 0, 1) := sorry
theorem dX10_stop_100 : decode cX10_stop 100 = .ok (.iaload, 1) := sorry
theorem dX10_stop_101 : decode cX10_stop 101 = .ok (.istore 4, 2) := sorry
theorem dX10_stop_103 : decode cX10_stop 103 = .ok (.iload 5, 2) := sorry
theorem dX10_stop_105 : decode cX10_stop 105 = .ok (.istore_n 3, 1) := sorry
theorem dX10_stop_106 : decode cX10_stop 106 = .ok (.iinc 5 1, 3) := sorry
theorem dX10_stop_109 : decode cX10_stop 109 = .ok (.goto (-73), 3) := sorry
theorem dX10_stop_112 : decode cX10_stop 112 = .ok (.iload_n 2, 1) := sorry
theorem dX10_stop_113 : decode cX10_stop 113 = .ok (.ifCond .ne 7, 3) := sorry
theorem dX10_stop_116 : decode cX10_stop 116 = .ok (.iload_n 3, 1) := sorry
theorem dX10_stop_117 : decode cX10_stop 117 = .ok (.goto 5, 3) := sorry
theorem dX10_stop_120 : decode cX10_stop 120 = .ok (.iload 4, 2) := sorry
theorem dX10_stop_122 : decode cX10_stop 122 = .ok (.ireturn, 1) := sorry
set_option maxRecDepth 20000 in
theorem ggX10_odds_X10_within : GoodIn wsX10_odds wsX10_within := sorry
set_option maxRecDepth 20000 in
theorem gX10_odds_X10_within : GoodIn wsX10_odds (va_wsS RX10 107 yX10_within wsX10_within) := sorry
set_option maxRecDepth 20000 in
theorem ggX10_odds_X10_demand : GoodIn wsX10_odds wsX10_demand := sorry
set_option maxRecDepth 20000 in
theorem gX10_odds_X10_demand : GoodIn wsX10_odds (wsV RX10 81 RX10 yX10_demand wsX10_demand) := sorry
set_option maxRecDepth 20000 in
theorem ggX10_odds_X2_start : GoodIn wsX10_odds wsX2_start := sorry
set_option maxRecDepth 20000 in
theorem gX10_odds_X2_start : GoodIn wsX10_odds (wsV RX10 193 RX2 yX2_start wsX2_start) := sorry
theorem dX10_odds_0 : decode cX10_odds 0 = .ok (.aload_n 0, 1) := sorry
theorem dX10_odds_1 : decode cX10_odds 1 = .ok (.iload_n 1, 1) := sorry
theorem dX10_odds_2 : decode cX10_odds 2 = .ok (.iconst 1, 1) := sorry
theorem dX10_odds_3 : decode cX10_odds 3 = .ok (.bipush 99, 2) := sorry
theorem dX10_odds_5 : decode cX10_odds 5 = .ok (.invokestatic 107, 3) := sorry
theorem dX10_odds_8 : decode cX10_odds 8 = .ok (.ifCond .eq 17, 3) := sorry
theorem dX10_odds_11 : decode cX10_odds 11 = .ok (.iload_n 2, 1) := sorry
theorem dX10_odds_12 : decode cX10_odds 12 = .ok (.iconst 1, 1) := sorry
theorem dX10_odds_13 : decode cX10_odds 13 = .ok (.bipush 99, 2) := sorry
theorem dX10_odds_15 : decode cX10_odds 15 = .ok (.invokestatic 107, 3) := sorry
theorem dX10_odds_18 : decode cX10_odds 18 = .ok (.ifCond .eq 7, 3) := sorry
theorem dX10_odds_21 : decode cX10_odds 21 = .ok (.iconst 1, 1) := sorry
theorem dX10_odds_22 : decode cX10_odds 22 = .ok (.goto 4, 3) := sorry
theorem dX10_odds_25 : decode cX10_odds 25 = .ok (.iconst 0, 1) := sorry
theorem dX10_odds_26 : decode cX10_odds 26 = .ok (.invokevirtual 81, 3) := sorry
theorem dX10_odds_29 : decode cX10_odds 29 = .ok (.aload_n 0, 1) := sorry
theorem dX10_odds_30 : decode cX10_odds 30 = .ok (.getfield 39, 3) := sorry
theorem dX10_odds_33 : decode cX10_odds 33 = .ok (.getfield 189, 3) := sorry
theorem dX10_odds_36 : decode cX10_odds 36 = .ok (.iload_n 1, 1) := sorry
theorem dX10_odds_37 : decode cX10_odds 37 = .ok (.iload_n 2, 1) := sorry
theorem dX10_odds_38 : decode cX10_odds 38 = .ok (.invokevirtual 193, 3) := sorry
theorem dX10_odds_41 : decode cX10_odds 41 = .ok (.return_, 1) := sorry
set_option maxRecDepth 20000 in
theorem ggX10_kind_X10_within : GoodIn wsX10_kind wsX10_within := sorry
set_option maxRecDepth 20000 in
theorem gX10_kind_X10_within : GoodIn wsX10_kind (va_wsS RX10 107 yX10_within wsX10_within) := sorry
set_option maxRecDepth 20000 in
theorem ggX10_kind_X10_demand : GoodIn wsX10_kind wsX10_demand := sorry
set_option maxRecDepth 20000 in
theorem gX10_kind_X10_demand : GoodIn wsX10_kind (wsV RX10 81 RX10 yX10_demand wsX10_demand) := sorry
theorem dX10_kind_0 : decode cX10_kind 0 = .ok (.aload_n 0, 1) := sorry
theorem dX10_kind_1 : decode cX10_kind 1 = .ok (.iload_n 1, 1) := sorry
theorem dX10_kind_2 : decode cX10_kind 2 = .ok (.iconst 0, 1) := sorry
theorem dX10_kind_3 : decode cX10_kind 3 = .ok (.iconst 3, 1) := sorry
theorem dX10_kind_4 : decode cX10_kind 4 = .ok (.invokestatic 107, 3) := sorry
theorem dX10_kind_7 : decode cX10_kind 7 = .ok (.ifCond .eq 27, 3) := sorry
theorem dX10_kind_10 : decode cX10_kind 10 = .ok (.iload_n 2, 1) := sorry
theorem dX10_kind_11 : decode cX10_kind 11 = .ok (.iconst 1, 1) := sorry
theorem dX10_kind_12 : decode cX10_kind 12 = .ok (.bipush 16, 2) := sorry
theorem dX10_kind_14 : decode cX10_kind 14 = .ok (.invokestatic 107, 3) := sorry
theorem dX10_kind_17 : decode cX10_kind 17 = .ok (.ifCond .eq 17, 3) := sorry
theorem dX10_kind_20 : decode cX10_kind 20 = .ok (.iload_n 3, 1) := sorry
theorem dX10_kind_21 : decode cX10_kind 21 = .ok (.iconst 1, 1) := sorry
theorem dX10_kind_22 : decode cX10_kind 22 = .ok (.bipush 16, 2) := sorry
theorem dX10_kind_24 : decode cX10_kind 24 = .ok (.invokestatic 107, 3) := sorry
theorem dX10_kind_27 : decode cX10_kind 27 = .ok (.ifCond .eq 7, 3) := sorry
theorem dX10_kind_30 : decode cX10_kind 30 = .ok (.iconst 1, 1) := sorry
theorem dX10_kind_31 : decode cX10_kind 31 = .ok (.goto 4, 3) := sorry
theorem dX10_kind_34 : decode cX10_kind 34 = .ok (.iconst 0, 1) := sorry
theorem dX10_kind_35 : decode cX10_kind 35 = .ok (.invokevirtual 81, 3) := sorry
theorem dX10_kind_38 : decode cX10_kind 38 = .ok (.aload_n 0, 1) := sorry
theorem dX10_kind_39 : decode cX10_kind 39 = .ok (.getfield 39, 3) := sorry
theorem dX10_kind_42 : decode cX10_kind 42 = .ok (.getfield 189, 3) := sorry
theorem dX10_kind_45 : decode cX10_kind 45 = .ok (.getfield 199, 3) := sorry
theorem dX10_kind_48 : decode cX10_kind 48 = .ok (.iload_n 1, 1) := sorry
theorem dX10_kind_49 : decode cX10_kind 49 = .ok (.iload_n 2, 1) := sorry
theorem dX10_kind_50 : decode cX10_kind 50 = .ok (.iastore, 1) := sorry
theorem dX10_kind_51 : decode cX10_kind 51 = .ok (.aload_n 0, 1) := sorry
theorem dX10_kind_52 : decode cX10_kind 52 = .ok (.getfield 39, 3) := sorry
theorem dX10_kind_55 : decode cX10_kind 55 = .ok (.getfield 189, 3) := sorry
theorem dX10_kind_58 : decode cX10_kind 58 = .ok (.getfield 202, 3) := sorry
theorem dX10_kind_61 : decode cX10_kind 61 = .ok (.iload_n 1, 1) := sorry
theorem dX10_kind_62 : decode cX10_kind 62 = .ok (.iload_n 3, 1) := sorry
theorem dX10_kind_63 : decode cX10_kind 63 = .ok (.iastore, 1) := sorry
theorem dX10_kind_64 : decode cX10_kind 64 = .ok (.return_, 1) := sorry
set_option maxRecDepth 20000 in
theorem ggX10_seen_X10_within : GoodIn wsX10_seen wsX10_within := sorry
set_option maxRecDepth 20000 in
theorem gX10_seen_X10_within : GoodIn wsX10_seen (va_wsS RX10 107 yX10_within wsX10_within) := sorry
set_option maxRecDepth 20000 in
theorem ggX10_seen_X10_demand : GoodIn wsX10_seen wsX10_demand := sorry
set_option maxRecDepth 20000 in
theorem gX10_seen_X10_demand : GoodIn wsX10_seen (wsV RX10 81 RX10 yX10_demand wsX10_demand) := sorry
set_option maxRecDepth 20000 in
theorem ggX10_seen_X2_add : GoodIn wsX10_seen wsX2_add := sorry
set_option maxRecDepth 20000 in
theorem gX10_seen_X2_add : GoodIn wsX10_seen (wsV RX10 205 RX2 yX2_add wsX2_add) := sorry
theorem dX10_seen_0 : decode cX10_seen 0 = .ok (.aload_n 0, 1) := sorry
theorem dX10_seen_1 : decode cX10_seen 1 = .ok (.iload_n 1, 1) := sorry
theorem dX10_seen_2 : decode cX10_seen 2 = .ok (.iconst 0, 1) := sorry
theorem dX10_seen_3 : decode cX10_seen 3 = .ok (.iconst 3, 1) := sorry
theorem dX10_seen_4 : decode cX10_seen 4 = .ok (.invokestatic 107, 3) := sorry
theorem dX10_seen_7 : decode cX10_seen 7 = .ok (.invokevirtual 81, 3) := sorry
theorem dX10_seen_10 : decode cX10_seen 10 = .ok (.aload_n 0, 1) := sorry
theorem dX10_seen_11 : decode cX10_seen 11 = .ok (.getfield 39, 3) := sorry
theorem dX10_seen_14 : decode cX10_seen 14 = .ok (.getfield 189, 3) := sorry
theorem dX10_seen_17 : decode cX10_seen 17 = .ok (.astore_n 2, 1) := sorry
theorem dX10_seen_18 : decode cX10_seen 18 = .ok (.aload_n 2, 1) := sorry
theorem dX10_seen_19 : decode cX10_seen 19 = .ok (.aload_n 2, 1) := sorry
theorem dX10_seen_20 : decode cX10_seen 20 = .ok (.getfield 199, 3) := sorry
theorem dX10_seen_23 : decode cX10_seen 23 = .ok (.iload_n 1, 1) := sorry
theorem dX10_seen_24 : decode cX10_seen 24 = .ok (.iaload, 1) := sorry
theorem dX10_seen_25 : decode cX10_seen 25 = .ok (.aload_n 2, 1) := sorry
theorem dX10_seen_26 : decode cX10_seen 26 = .ok (.getfield 202, 3) := sorry
theorem dX10_seen_29 : decode cX10_seen 29 = .ok (.iload_n 1, 1) := sorry
theorem dX10_seen_30 : decode cX10_seen 30 = .ok (.iaload, 1) := sorry
theorem dX10_seen_31 : decode cX10_seen 31 = .ok (.invokevirtual 205, 3) := sorry
theorem dX10_seen_34 : decode cX10_seen 34 = .ok (.ireturn, 1) := sorry
set_option maxRecDepth 20000 in
theorem ggX10_spy_X10_within : GoodIn wsX10_spy wsX10_within := sorry
set_option maxRecDepth 20000 in
theorem gX10_spy_X10_within : GoodIn wsX10_spy (va_wsS RX10 107 yX10_within wsX10_within) := sorry
set_option maxRecDepth 20000 in
theorem ggX10_spy_X10_demand : GoodIn wsX10_spy wsX10_demand := sorry
set_option maxRecDepth 20000 in
theorem gX10_spy_X10_demand : GoodIn wsX10_spy (wsV RX10 81 RX10 yX10_demand wsX10_demand) := sorry
set_option maxRecDepth 20000 in
theorem ggX10_spy_X2_add : GoodIn wsX10_spy wsX2_add := sorry
set_option maxRecDepth 20000 in
theorem gX10_spy_X2_add : GoodIn wsX10_spy (wsV RX10 205 RX2 yX2_add wsX2_add) := sorry
theorem dX10_spy_0 : decode cX10_spy 0 = .ok (.aload_n 0, 1) := sorry
theorem dX10_spy_1 : decode cX10_spy 1 = .ok (.iload_n 2, 1) := sorry
theorem dX10_spy_2 : decode cX10_spy 2 = .ok (.iconst 1, 1) := sorry
theorem dX10_spy_3 : decode cX10_spy 3 = .ok (.bipush 15, 2) := sorry
theorem dX10_spy_5 : decode cX10_spy 5 = .ok (.invokestatic 107, 3) := sorry
theorem dX10_spy_8 : decode cX10_spy 8 = .ok (.invokevirtual 81, 3) := sorry
theorem dX10_spy_11 : decode cX10_spy 11 = .ok (.bipush 16, 2) := sorry
theorem dX10_spy_13 : decode cX10_spy 13 = .ok (.iload_n 2, 1) := sorry
theorem dX10_spy_14 : decode cX10_spy 14 = .ok (.isub, 1) := sorry
theorem dX10_spy_15 : decode cX10_spy 15 = .ok (.istore_n 3, 1) := sorry
theorem dX10_spy_16 : decode cX10_spy 16 = .ok (.iload_n 1, 1) := sorry
theorem dX10_spy_17 : decode cX10_spy 17 = .ok (.ifCond .eq 18, 3) := sorry
theorem dX10_spy_20 : decode cX10_spy 20 = .ok (.aload_n 0, 1) := sorry
theorem dX10_spy_21 : decode cX10_spy 21 = .ok (.getfield 39, 3) := sorry
theorem dX10_spy_24 : decode cX10_spy 24 = .ok (.getfield 189, 3) := sorry
theorem dX10_spy_27 : decode cX10_spy 27 = .ok (.iload_n 2, 1) := sorry
theorem dX10_spy_28 : decode cX10_spy 28 = .ok (.iload_n 3, 1) := sorry
theorem dX10_spy_29 : decode cX10_spy 29 = .ok (.invokevirtual 205, 3) := sorry
theorem dX10_spy_32 : decode cX10_spy 32 = .ok (.goto 15, 3) := sorry
theorem dX10_spy_35 : decode cX10_spy 35 = .ok (.aload_n 0, 1) := sorry
theorem dX10_spy_36 : decode cX10_spy 36 = .ok (.getfield 39, 3) := sorry
theorem dX10_spy_39 : decode cX10_spy 39 = .ok (.getfield 189, 3) := sorry
theorem dX10_spy_42 : decode cX10_spy 42 = .ok (.iload_n 3, 1) := sorry
theorem dX10_spy_43 : decode cX10_spy 43 = .ok (.iload_n 2, 1) := sorry
theorem dX10_spy_44 : decode cX10_spy 44 = .ok (.invokevirtual 205, 3) := sorry
theorem dX10_spy_47 : decode cX10_spy 47 = .ok (.ireturn, 1) := sorry
set_option maxRecDepth 20000 in
theorem ggX10_believed_X10_within : GoodIn wsX10_believed wsX10_within := sorry
set_option maxRecDepth 20000 in
theorem gX10_believed_X10_within : GoodIn wsX10_believed (va_wsS RX10 107 yX10_within wsX10_within) := sorry
set_option maxRecDepth 20000 in
theorem ggX10_believed_X10_demand : GoodIn wsX10_believed wsX10_demand := sorry
set_option maxRecDepth 20000 in
theorem gX10_believed_X10_demand : GoodIn wsX10_believed (wsV RX10 81 RX10 yX10_demand wsX10_demand) := sorry
set_option maxRecDepth 20000 in
theorem ggX10_believed_X2_leastTerm : GoodIn wsX10_believed wsX2_leastTerm := sorry
set_option maxRecDepth 20000 in
theorem gX10_believed_X2_leastTerm : GoodIn wsX10_believed (wsV RX10 208 RX2 yX2_leastTerm wsX2_leastTerm) := sorry
theorem dX10_believed_0 : decode cX10_believed 0 = .ok (.aload_n 0, 1) := sorry
theorem dX10_believed_1 : decode cX10_believed 1 = .ok (.iload_n 1, 1) := sorry
theorem dX10_believed_2 : decode cX10_believed 2 = .ok (.iconst 0, 1) := sorry
theorem dX10_believed_3 : decode cX10_believed 3 = .ok (.iconst 1, 1) := sorry
theorem dX10_believed_4 : decode cX10_believed 4 = .ok (.invokestatic 107, 3) := sorry
theorem dX10_believed_7 : decode cX10_believed 7 = .ok (.invokevirtual 81, 3) := sorry
theorem dX10_believed_10 : decode cX10_believed 10 = .ok (.aload_n 0, 1) := sorry
theorem dX10_believed_11 : decode cX10_believed 11 = .ok (.getfield 39, 3) := sorry
theorem dX10_believed_14 : decode cX10_believed 14 = .ok (.getfield 189, 3) := sorry
theorem dX10_believed_17 : decode cX10_believed 17 = .ok (.iload_n 1, 1) := sorry
theorem dX10_believed_18 : decode cX10_believed 18 = .ok (.ifCond .ne 7, 3) := sorry
theorem dX10_believed_21 : decode cX10_believed 21 = .ok (.iconst 1, 1) := sorry
theorem dX10_believed_22 : decode cX10_believed 22 = .ok (.goto 4, 3) := sorry
theorem dX10_believed_25 : decode cX10_believed 25 = .ok (.iconst 0, 1) := sorry
theorem dX10_believed_26 : decode cX10_believed 26 = .ok (.invokevirtual 208, 3) := sorry
theorem dX10_believed_29 : decode cX10_believed 29 = .ok (.lreturn, 1) := sorry
set_option maxRecDepth 20000 in
theorem ggX10_earnest_X10_within : GoodIn wsX10_earnest wsX10_within := sorry
set_option maxRecDepth 20000 in
theorem gX10_earnest_X10_within : GoodIn wsX10_earnest (va_wsS RX10 107 yX10_within wsX10_within) := sorry
set_option maxRecDepth 20000 in
theorem ggX10_earnest_X10_demand : GoodIn wsX10_earnest wsX10_demand := sorry
set_option maxRecDepth 20000 in
theorem gX10_earnest_X10_demand : GoodIn wsX10_earnest (wsV RX10 81 RX10 yX10_demand wsX10_demand) := sorry
set_option maxRecDepth 20000 in
theorem ggX10_earnest_X1_prepare : GoodIn wsX10_earnest wsX1_prepare := sorry
set_option maxRecDepth 20000 in
theorem gX10_earnest_X1_prepare : GoodIn wsX10_earnest (wsV RX10 212 RX1 yX1_prepare wsX1_prepare) := sorry
set_option maxRecDepth 20000 in
theorem ggX10_earnest_X1_all : GoodIn wsX10_earnest wsX1_all := sorry
set_option maxRecDepth 20000 in
theorem gX10_earnest_X1_all : GoodIn wsX10_earnest (wsV RX10 215 RX1 yX1_all wsX1_all) := sorry
set_option maxRecDepth 20000 in
theorem ggX10_earnest_X1_safe : GoodIn wsX10_earnest wsX1_safe := sorry
set_option maxRecDepth 20000 in
theorem gX10_earnest_X1_safe : GoodIn wsX10_earnest (wsV RX10 219 RX1 yX1_safe wsX1_safe) := sorry
set_option maxRecDepth 20000 in
theorem ggX10_earnest_X1_sure : GoodIn wsX10_earnest wsX1_sure := sorry
set_option maxRecDepth 20000 in
theorem gX10_earnest_X1_sure : GoodIn wsX10_earnest (wsV RX10 223 RX1 yX1_sure wsX1_sure) := sorry
theorem dX10_earnest_0 : decode cX10_earnest 0 = .ok (.aload_n 0, 1) := sorry
theorem dX10_earnest_1 : decode cX10_earnest 1 = .ok (.iload_n 1, 1) := sorry
theorem dX10_earnest_2 : decode cX10_earnest 2 = .ok (.iconst 0, 1) := sorry
theorem dX10_earnest_3 : decode cX10_earnest 3 = .ok (.bipush 6, 2) := sorry
theorem dX10_earnest_5 : decode cX10_earnest 5 = .ok (.invokestatic 107, 3) := sorry
theorem dX10_earnest_8 : decode cX10_earnest 8 = .ok (.ifCond .eq 26, 3) := sorry
theorem dX10_earnest_11 : decode cX10_earnest 11 = .ok (.iload_n 2, 1) := sorry
theorem dX10_earnest_12 : decode cX10_earnest 12 = .ok (.iconst 0, 1) := sorry
theorem dX10_earnest_13 : decode cX10_earnest 13 = .ok (.bipush 6, 2) := sorry
theorem dX10_earnest_15 : decode cX10_earnest 15 = .ok (.invokestatic 107, 3) := sorry
theorem dX10_earnest_18 : decode cX10_earnest 18 = .ok (.ifCond .eq 16, 3) := sorry
theorem dX10_earnest_21 : decode cX10_earnest 21 = .ok (.iload_n 3, 1) := sorry
theorem dX10_earnest_22 : decode cX10_earnest 22 = .ok (.iconst 0, 1) := sorry
theorem dX10_earnest_23 : decode cX10_earnest 23 = .ok (.iconst 1, 1) := sorry
theorem dX10_earnest_24 : decode cX10_earnest 24 = .ok (.invokestatic 107, 3) := sorry
theorem dX10_earnest_27 : decode cX10_earnest 27 = .ok (.ifCond .eq 7, 3) := sorry
theorem dX10_earnest_30 : decode cX10_earnest 30 = .ok (.iconst 1, 1) := sorry
theorem dX10_earnest_31 : decode cX10_earnest 31 = .ok (.goto 4, 3) := sorry
theorem dX10_earnest_34 : decode cX10_earnest 34 = .ok (.iconst 0, 1) := sorry
theorem dX10_earnest_35 : decode cX10_earnest 35 = .ok (.invokevirtual 81, 3) := sorry
theorem dX10_earnest_38 : decode cX10_earnest 38 = .ok (.aload_n 0, 1) := sorry
theorem dX10_earnest_39 : decode cX10_earnest 39 = .ok (.getfield 57, 3) := sorry
theorem dX10_earnest_42 : decode cX10_earnest 42 = .ok (.aload_n 0, 1) := sorry
theorem dX10_earnest_43 : decode cX10_earnest 43 = .ok (.getfield 23, 3) := sorry
theorem dX10_earnest_46 : decode cX10_earnest 46 = .ok (.invokevirtual 212, 3) := sorry
theorem dX10_earnest_49 : decode cX10_earnest 49 = .ok (.iload_n 3, 1) := sorry
theorem dX10_earnest_50 : decode cX10_earnest 50 = .ok (.ifCond .ne 22, 3) := sorry
theorem dX10_earnest_53 : decode cX10_earnest 53 = .ok (.aload_n 0, 1) := sorry
theorem dX10_earnest_54 : decode cX10_earnest 54 = .ok (.getfield 57, 3) := sorry
theorem dX10_earnest_57 : decode cX10_earnest 57 = .ok (.aload_n 0, 1) := sorry
theorem dX10_earnest_58 : decode cX10_earnest 58 = .ok (.getfield 57, 3) := sorry
theorem dX10_earnest_61 : decode cX10_earnest 61 = .ok (.invokevirtual 215, 3) := sorry
theorem dX10_earnest_64 : decode cX10_earnest 64 = .ok (.iload_n 1, 1) := sorry
theorem dX10_earnest_65 : decode cX10_earnest 65 = .ok (.iload_n 2, 1) := sorry
theorem dX10_earnest_66 : decode cX10_earnest 66 = .ok (.invokevirtual 219, 3) := sorry
theorem dX10_earnest_69 : decode cX10_earnest 69 = .ok (.goto 12, 3) := sorry
theorem dX10_earnest_72 : decode cX10_earnest 72 = .ok (.aload_n 0, 1) := sorry
theorem dX10_earnest_73 : decode cX10_earnest 73 = .ok (.getfield 57, 3) := sorry
theorem dX10_earnest_76 : decode cX10_earnest 76 = .ok (.iload_n 1, 1) := sorry
theorem dX10_earnest_77 : decode cX10_earnest 77 = .ok (.iload_n 2, 1) := sorry
theorem dX10_earnest_78 : decode cX10_earnest 78 = .ok (.invokevirtual 223, 3) := sorry
theorem dX10_earnest_81 : decode cX10_earnest 81 = .ok (.ireturn, 1) := sorry
set_option maxRecDepth 20000 in
theorem ggX10_stands_X10_within : GoodIn wsX10_stands wsX10_within := sorry
set_option maxRecDepth 20000 in
theorem gX10_stands_X10_within : GoodIn wsX10_stands (va_wsS RX10 107 yX10_within wsX10_within) := sorry
set_option maxRecDepth 20000 in
theorem ggX10_stands_X10_demand : GoodIn wsX10_stands wsX10_demand := sorry
set_option maxRecDepth 20000 in
theorem gX10_stands_X10_demand : GoodIn wsX10_stands (wsV RX10 81 RX10 yX10_demand wsX10_demand) := sorry
set_option maxRecDepth 20000 in
theorem ggX10_stands_X1_prepare : GoodIn wsX10_stands wsX1_prepare := sorry
set_option maxRecDepth 20000 in
theorem gX10_stands_X1_prepare : GoodIn wsX10_stands (wsV RX10 212 RX1 yX1_prepare wsX1_prepare) := sorry
set_option maxRecDepth 20000 in
theorem ggX10_stands_X1_all : GoodIn wsX10_stands wsX1_all := sorry
set_option maxRecDepth 20000 in
theorem gX10_stands_X1_all : GoodIn wsX10_stands (wsV RX10 215 RX1 yX1_all wsX1_all) := sorry
set_option maxRecDepth 20000 in
theorem ggX10_stands_X1_safe : GoodIn wsX10_stands wsX1_safe := sorry
set_option maxRecDepth 20000 in
theorem gX10_stands_X1_safe : GoodIn wsX10_stands (wsV RX10 219 RX1 yX1_safe wsX1_safe) := sorry
theorem dX10_stands_0 : decode cX10_stands 0 = .ok (.aload_n 0, 1) := sorry
theorem dX10_stands_1 : decode cX10_stands 1 = .ok (.iload_n 1, 1) := sorry
theorem dX10_stands_2 : decode cX10_stands 2 = .ok (.iconst 0, 1) := sorry
theorem dX10_stands_3 : decode cX10_stands 3 = .ok (.bipush 6, 2) := sorry
theorem dX10_stands_5 : decode cX10_stands 5 = .ok (.invokestatic 107, 3) := sorry
theorem dX10_stands_8 : decode cX10_stands 8 = .ok (.ifCond .eq 17, 3) := sorry
theorem dX10_stands_11 : decode cX10_stands 11 = .ok (.iload_n 2, 1) := sorry
theorem dX10_stands_12 : decode cX10_stands 12 = .ok (.iconst 0, 1) := sorry
theorem dX10_stands_13 : decode cX10_stands 13 = .ok (.bipush 6, 2) := sorry
theorem dX10_stands_15 : decode cX10_stands 15 = .ok (.invokestatic 107, 3) := sorry
theorem dX10_stands_18 : decode cX10_stands 18 = .ok (.ifCond .eq 7, 3) := sorry
theorem dX10_stands_21 : decode cX10_stands 21 = .ok (.iconst 1, 1) := sorry
theorem dX10_stands_22 : decode cX10_stands 22 = .ok (.goto 4, 3) := sorry
theorem dX10_stands_25 : decode cX10_stands 25 = .ok (.iconst 0, 1) := sorry
theorem dX10_stands_26 : decode cX10_stands 26 = .ok (.invokevirtual 81, 3) := sorry
theorem dX10_stands_29 : decode cX10_stands 29 = .ok (.aload_n 0, 1) := sorry
theorem dX10_stands_30 : decode cX10_stands 30 = .ok (.getfield 57, 3) := sorry
theorem dX10_stands_33 : decode cX10_stands 33 = .ok (.aload_n 0, 1) := sorry
theorem dX10_stands_34 : decode cX10_stands 34 = .ok (.getfield 23, 3) := sorry
theorem dX10_stands_37 : decode cX10_stands 37 = .ok (.invokevirtual 212, 3) := sorry
theorem dX10_stands_40 : decode cX10_stands 40 = .ok (.aload_n 0, 1) := sorry
theorem dX10_stands_41 : decode cX10_stands 41 = .ok (.getfield 57, 3) := sorry
theorem dX10_stands_44 : decode cX10_stands 44 = .ok (.aload_n 0, 1) := sorry
theorem dX10_stands_45 : decode cX10_stands 45 = .ok (.getfield 57, 3) := sorry
theorem dX10_stands_48 : decode cX10_stands 48 = .ok (.invokevirtual 215, 3) := sorry
theorem dX10_stands_51 : decode cX10_stands 51 = .ok (.iload_n 1, 1) := sorry
theorem dX10_stands_52 : decode cX10_stands 52 = .ok (.iload_n 2, 1) := sorry
theorem dX10_stands_53 : decode cX10_stands 53 = .ok (.invokevirtual 219, 3) := sorry
theorem dX10_stands_56 : decode cX10_stands 56 = .ok (.pop, 1) := sorry
theorem dX10_stands_57 : decode cX10_stands 57 = .ok (.aload_n 0, 1) := sorry
theorem dX10_stands_58 : decode cX10_stands 58 = .ok (.getfield 57, 3) := sorry
theorem dX10_stands_61 : decode cX10_stands 61 = .ok (.getfield 226, 3) := sorry
theorem dX10_stands_64 : decode cX10_stands 64 = .ok (.ireturn, 1) := sorry
set_option maxRecDepth 20000 in
theorem ggX10_show_X10_within : GoodIn wsX10_show wsX10_within := sorry
set_option maxRecDepth 20000 in
theorem gX10_show_X10_within : GoodIn wsX10_show (va_wsS RX10 107 yX10_within wsX10_within) := sorry
set_option maxRecDepth 20000 in
theorem ggX10_show_X10_demand : GoodIn wsX10_show wsX10_demand := sorry
set_option maxRecDepth 20000 in
theorem gX10_show_X10_demand : GoodIn wsX10_show (wsV RX10 81 RX10 yX10_demand wsX10_demand) := sorry
set_option maxRecDepth 20000 in
theorem ggX10_show_X1_prepare : GoodIn wsX10_show wsX1_prepare := sorry
set_option maxRecDepth 20000 in
theorem gX10_show_X1_prepare : GoodIn wsX10_show (wsV RX10 212 RX1 yX1_prepare wsX1_prepare) := sorry
set_option maxRecDepth 20000 in
theorem ggX10_show_X1_all : GoodIn wsX10_show wsX1_all := sorry
set_option maxRecDepth 20000 in
theorem gX10_show_X1_all : GoodIn wsX10_show (wsV RX10 215 RX1 yX1_all wsX1_all) := sorry
set_option maxRecDepth 20000 in
theorem ggX10_show_X1_safe : GoodIn wsX10_show wsX1_safe := sorry
set_option maxRecDepth 20000 in
theorem gX10_show_X1_safe : GoodIn wsX10_show (wsV RX10 219 RX1 yX1_safe wsX1_safe) := sorry
theorem dX10_show_0 : decode cX10_show 0 = .ok (.aload_n 0, 1) := sorry
theorem dX10_show_1 : decode cX10_show 1 = .ok (.iload_n 1, 1) := sorry
theorem dX10_show_2 : decode cX10_show 2 = .ok (.iconst 0, 1) := sorry
theorem dX10_show_3 : decode cX10_show 3 = .ok (.bipush 6, 2) := sorry
theorem dX10_show_5 : decode cX10_show 5 = .ok (.invokestatic 107, 3) := sorry
theorem dX10_show_8 : decode cX10_show 8 = .ok (.ifCond .eq 17, 3) := sorry
theorem dX10_show_11 : decode cX10_show 11 = .ok (.iload_n 2, 1) := sorry
theorem dX10_show_12 : decode cX10_show 12 = .ok (.iconst 0, 1) := sorry
theorem dX10_show_13 : decode cX10_show 13 = .ok (.bipush 6, 2) := sorry
theorem dX10_show_15 : decode cX10_show 15 = .ok (.invokestatic 107, 3) := sorry
theorem dX10_show_18 : decode cX10_show 18 = .ok (.ifCond .eq 7, 3) := sorry
theorem dX10_show_21 : decode cX10_show 21 = .ok (.iconst 1, 1) := sorry
theorem dX10_show_22 : decode cX10_show 22 = .ok (.goto 4, 3) := sorry
theorem dX10_show_25 : decode cX10_show 25 = .ok (.iconst 0, 1) := sorry
theorem dX10_show_26 : decode cX10_show 26 = .ok (.invokevirtual 81, 3) := sorry
theorem dX10_show_29 : decode cX10_show 29 = .ok (.aload_n 0, 1) := sorry
theorem dX10_show_30 : decode cX10_show 30 = .ok (.getfield 57, 3) := sorry
theorem dX10_show_33 : decode cX10_show 33 = .ok (.aload_n 0, 1) := sorry
theorem dX10_show_34 : decode cX10_show 34 = .ok (.getfield 23, 3) := sorry
theorem dX10_show_37 : decode cX10_show 37 = .ok (.invokevirtual 212, 3) := sorry
theorem dX10_show_40 : decode cX10_show 40 = .ok (.aload_n 0, 1) := sorry
theorem dX10_show_41 : decode cX10_show 41 = .ok (.getfield 57, 3) := sorry
theorem dX10_show_44 : decode cX10_show 44 = .ok (.aload_n 0, 1) := sorry
theorem dX10_show_45 : decode cX10_show 45 = .ok (.getfield 57, 3) := sorry
theorem dX10_show_48 : decode cX10_show 48 = .ok (.invokevirtual 215, 3) := sorry
theorem dX10_show_51 : decode cX10_show 51 = .ok (.iload_n 1, 1) := sorry
theorem dX10_show_52 : decode cX10_show 52 = .ok (.iload_n 2, 1) := sorry
theorem dX10_show_53 : decode cX10_show 53 = .ok (.invokevirtual 219, 3) := sorry
theorem dX10_show_56 : decode cX10_show 56 = .ok (.istore_n 3, 1) := sorry
theorem dX10_show_57 : decode cX10_show 57 = .ok (.iconst 0, 1) := sorry
theorem dX10_show_58 : decode cX10_show 58 = .ok (.istore 4, 2) := sorry
theorem dX10_show_60 : decode cX10_show 60 = .ok (.iconst 0, 1) := sorry
theorem dX10_show_61 : decode cX10_show 61 = .ok (.istore 5, 2) := sorry
theorem dX10_show_63 : decode cX10_show 63 = .ok (.iload 5, 2) := sorry
theorem dX10_show_65 : decode cX10_show 65 = .ok (.aload_n 0, 1) := sorry
theorem dX10_show_66 : decode cX10_show 66 = .ok (.getfield 57, 3) := sorry
theorem dX10_show_69 : decode cX10_show 69 = .ok (.getfield 229, 3) := sorry
theorem dX10_show_72 : decode cX10_show 72 = .ok (.if_icmp .ge 49, 3) := sorry
theorem dX10_show_75 : decode cX10_show 75 = .ok (.aload_n 0, 1) := sorry
theorem dX10_show_76 : decode cX10_show 76 = .ok (.getfield 57, 3) := sorry
theorem dX10_show_79 : decode cX10_show 79 = .ok (.invokevirtual 215, 3) := sorry
theorem dX10_show_82 : decode cX10_show 82 = .ok (.iconst 1, 1) := sorry
theorem dX10_show_83 : decode cX10_show 83 = .ok (.iload 5, 2) := sorry
theorem dX10_show_85 : decode cX10_show 85 = .ok (.ishl, 1) := sorry
theorem dX10_show_86 : decode cX10_show 86 = .ok (.iconst (-1), 1) := sorry
theorem dX10_show_87 : decode cX10_show 87 = .ok (.ixor, 1) := sorry
theorem dX10_show_88 : decode cX10_show 88 = .ok (.iand, 1) := sorry
theorem dX10_show_89 : decode cX10_show 89 = .ok (.istore 6, 2) := sorry
theorem dX10_show_91 : decode cX10_show 91 = .ok (.aload_n 0, 1) := sorry
theorem dX10_show_92 : decode cX10_show 92 = .ok (.getfield 57, 3) := sorry
theorem dX10_show_95 : decode cX10_show 95 = .ok (.iload 6, 2) := sorry
theorem dX10_show_97 : decode cX10_show 97 = .ok (.iload_n 1, 1) := sorry
theorem dX10_show_98 : decode cX10_show 98 = .ok (.iload_n 2, 1) := sorry
theorem dX10_show_99 : decode cX10_show 99 = .ok (.invokevirtual 219, 3) := sorry
theorem dX10_show_102 : decode cX10_show 102 = .ok (.iload_n 3, 1) := sorry
theorem dX10_show_103 : decode cX10_show 103 = .ok (.if_icmp .ne 12, 3) := sorry
theorem dX10_show_106 : decode cX10_show 106 = .ok (.iload 4, 2) := sorry
theorem dX10_show_108 : decode cX10_show 108 = .ok (.iconst 1, 1) := sorry
theorem dX10_show_109 : decode cX10_show 109 = .ok (.iload 5, 2) := sorry
theorem dX10_show_111 : decode cX10_show 111 = .ok (.ishl, 1) := sorry
theorem dX10_show_112 : decode cX10_show 112 = .ok (.ior, 1) := sorry
theorem dX10_show_113 : decode cX10_show 113 = .ok (.istore 4, 2) := sorry
theorem dX10_show_115 : decode cX10_show 115 = .ok (.iinc 5 1, 3) := sorry
theorem dX10_show_118 : decode cX10_show 118 = .ok (.goto (-55), 3) := sorry
theorem dX10_show_121 : decode cX10_show 121 = .ok (.iload 4, 2) := sorry
theorem dX10_show_123 : decode cX10_show 123 = .ok (.ireturn, 1) := sorry
set_option maxRecDepth 20000 in
theorem ggX10_offers_X10_within : GoodIn wsX10_offers wsX10_within := sorry
set_option maxRecDepth 20000 in
theorem gX10_offers_X10_within : GoodIn wsX10_offers (va_wsS RX10 107 yX10_within wsX10_within) := sorry
set_option maxRecDepth 20000 in
theorem ggX10_offers_X10_demand : GoodIn wsX10_offers wsX10_demand := sorry
set_option maxRecDepth 20000 in
theorem gX10_offers_X10_demand : GoodIn wsX10_offers (wsV RX10 81 RX10 yX10_demand wsX10_demand) := sorry
set_option maxRecDepth 20000 in
theorem ggX10_offers_X3_bid : GoodIn wsX10_offers wsX3_bid := sorry
set_option maxRecDepth 20000 in
theorem gX10_offers_X3_bid : GoodIn wsX10_offers (wsV RX10 236 RX3 yX3_bid wsX3_bid) := sorry
theorem dX10_offers_0 : decode cX10_offers 0 = .ok (.aload_n 0, 1) := sorry
theorem dX10_offers_1 : decode cX10_offers 1 = .ok (.iload_n 1, 1) := sorry
theorem dX10_offers_2 : decode cX10_offers 2 = .ok (.iconst 1, 1) := sorry
theorem dX10_offers_3 : decode cX10_offers 3 = .ok (.iconst 2, 1) := sorry
theorem dX10_offers_4 : decode cX10_offers 4 = .ok (.invokestatic 107, 3) := sorry
theorem dX10_offers_7 : decode cX10_offers 7 = .ok (.ifCond .eq 28, 3) := sorry
theorem dX10_offers_10 : decode cX10_offers 10 = .ok (.iload_n 2, 1) := sorry
theorem dX10_offers_11 : decode cX10_offers 11 = .ok (.iconst 0, 1) := sorry
theorem dX10_offers_12 : decode cX10_offers 12 = .ok (.bipush 11, 2) := sorry
theorem dX10_offers_14 : decode cX10_offers 14 = .ok (.invokestatic 107, 3) := sorry
theorem dX10_offers_17 : decode cX10_offers 17 = .ok (.ifCond .eq 18, 3) := sorry
theorem dX10_offers_20 : decode cX10_offers 20 = .ok (.iload_n 3, 1) := sorry
theorem dX10_offers_21 : decode cX10_offers 21 = .ok (.iconst 0, 1) := sorry
theorem dX10_offers_22 : decode cX10_offers 22 = .ok (.sipush 999, 3) := sorry
theorem dX10_offers_25 : decode cX10_offers 25 = .ok (.invokestatic 107, 3) := sorry
theorem dX10_offers_28 : decode cX10_offers 28 = .ok (.ifCond .eq 7, 3) := sorry
theorem dX10_offers_31 : decode cX10_offers 31 = .ok (.iconst 1, 1) := sorry
theorem dX10_offers_32 : decode cX10_offers 32 = .ok (.goto 4, 3) := sorry
theorem dX10_offers_35 : decode cX10_offers 35 = .ok (.iconst 0, 1) := sorry
theorem dX10_offers_36 : decode cX10_offers 36 = .ok (.invokevirtual 81, 3) := sorry
theorem dX10_offers_39 : decode cX10_offers 39 = .ok (.aload_n 0, 1) := sorry
theorem dX10_offers_40 : decode cX10_offers 40 = .ok (.getfield 39, 3) := sorry
theorem dX10_offers_43 : decode cX10_offers 43 = .ok (.getfield 232, 3) := sorry
theorem dX10_offers_46 : decode cX10_offers 46 = .ok (.iload_n 1, 1) := sorry
theorem dX10_offers_47 : decode cX10_offers 47 = .ok (.iload_n 2, 1) := sorry
theorem dX10_offers_48 : decode cX10_offers 48 = .ok (.iload_n 3, 1) := sorry
theorem dX10_offers_49 : decode cX10_offers 49 = .ok (.invokevirtual 236, 3) := sorry
theorem dX10_offers_52 : decode cX10_offers 52 = .ok (.ireturn, 1) := sorry
set_option maxRecDepth 20000 in
theorem ggX10_most_X3_mostCoin : GoodIn wsX10_most wsX3_mostCoin := sorry
set_option maxRecDepth 20000 in
theorem gX10_most_X3_mostCoin : GoodIn wsX10_most (wsV RX10 239 RX3 yX3_mostCoin wsX3_mostCoin) := sorry
theorem dX10_most_0 : decode cX10_most 0 = .ok (.aload_n 0, 1) := sorry
theorem dX10_most_1 : decode cX10_most 1 = .ok (.getfield 39, 3) := sorry
theorem dX10_most_4 : decode cX10_most 4 = .ok (.getfield 232, 3) := sorry
theorem dX10_most_7 : decode cX10_most 7 = .ok (.invokevirtual 239, 3) := sorry
theorem dX10_most_10 : decode cX10_most 10 = .ok (.ireturn, 1) := sorry
set_option maxRecDepth 20000 in
theorem ggX10_serves_X10_within : GoodIn wsX10_serves wsX10_within := sorry
set_option maxRecDepth 20000 in
theorem gX10_serves_X10_within : GoodIn wsX10_serves (va_wsS RX10 107 yX10_within wsX10_within) := sorry
set_option maxRecDepth 20000 in
theorem ggX10_serves_X10_demand : GoodIn wsX10_serves wsX10_demand := sorry
set_option maxRecDepth 20000 in
theorem gX10_serves_X10_demand : GoodIn wsX10_serves (wsV RX10 81 RX10 yX10_demand wsX10_demand) := sorry
set_option maxRecDepth 20000 in
theorem ggX10_serves_X3_served : GoodIn wsX10_serves wsX3_served := sorry
set_option maxRecDepth 20000 in
theorem gX10_serves_X3_served : GoodIn wsX10_serves (wsV RX10 242 RX3 yX3_served wsX3_served) := sorry
theorem dX10_serves_0 : decode cX10_serves 0 = .ok (.aload_n 0, 1) := sorry
theorem dX10_serves_1 : decode cX10_serves 1 = .ok (.iload_n 1, 1) := sorry
theorem dX10_serves_2 : decode cX10_serves 2 = .ok (.iconst 0, 1) := sorry
theorem dX10_serves_3 : decode cX10_serves 3 = .ok (.bipush 11, 2) := sorry
theorem dX10_serves_5 : decode cX10_serves 5 = .ok (.invokestatic 107, 3) := sorry
theorem dX10_serves_8 : decode cX10_serves 8 = .ok (.invokevirtual 81, 3) := sorry
theorem dX10_serves_11 : decode cX10_serves 11 = .ok (.aload_n 0, 1) := sorry
theorem dX10_serves_12 : decode cX10_serves 12 = .ok (.getfield 39, 3) := sorry
theorem dX10_serves_15 : decode cX10_serves 15 = .ok (.getfield 232, 3) := sorry
theorem dX10_serves_18 : decode cX10_serves 18 = .ok (.iload_n 1, 1) := sorry
theorem dX10_serves_19 : decode cX10_serves 19 = .ok (.invokevirtual 242, 3) := sorry
theorem dX10_serves_22 : decode cX10_serves 22 = .ok (.ireturn, 1) := sorry
set_option maxRecDepth 20000 in
theorem ggX10_image_X8_init : GoodIn wsX10_image wsX8_init := sorry
set_option maxRecDepth 20000 in
theorem gX10_image_X8_init_n38 : GoodIn wsX10_image (wsX8_init) := sorry
set_option maxRecDepth 20000 in
theorem ggX10_image_X8_take : GoodIn wsX10_image wsX8_take := sorry
set_option maxRecDepth 20000 in
theorem gX10_image_X8_take : GoodIn wsX10_image (wsV RX10 245 RX8 yX8_take wsX8_take) := sorry
theorem dX10_image_0 : decode cX10_image 0 = .ok (.aload_n 0, 1) := sorry
theorem dX10_image_1 : decode cX10_image 1 = .ok (.getfield 95, 3) := sorry
theorem dX10_image_4 : decode cX10_image 4 = .ok (.iconst 3, 1) := sorry
theorem dX10_image_5 : decode cX10_image 5 = .ok (.if_icmp .lt 5, 3) := sorry
theorem dX10_image_8 : decode cX10_image 8 = .ok (.iconst (-1), 1) := sorry
theorem dX10_image_9 : decode cX10_image 9 = .ok (.ireturn, 1) := sorry
theorem dX10_image_10 : decode cX10_image 10 = .ok (.aload_n 0, 1) := sorry
theorem dX10_image_11 : decode cX10_image 11 = .ok (.getfield 43, 3) := sorry
theorem dX10_image_14 : decode cX10_image 14 = .ok (.aload_n 0, 1) := sorry
theorem dX10_image_15 : decode cX10_image 15 = .ok (.getfield 95, 3) := sorry
theorem dX10_image_18 : decode cX10_image 18 = .ok (.aaload, 1) := sorry
theorem dX10_image_19 : decode cX10_image 19 = .ok (.ifnonnull 19, 3) := sorry
theorem dX10_image_22 : decode cX10_image 22 = .ok (.aload_n 0, 1) := sorry
theorem dX10_image_23 : decode cX10_image 23 = .ok (.getfield 43, 3) := sorry
theorem dX10_image_26 : decode cX10_image 26 = .ok (.aload_n 0, 1) := sorry
theorem dX10_image_27 : decode cX10_image 27 = .ok (.getfield 95, 3) := sorry
theorem dX10_image_30 : decode cX10_image 30 = .ok (.new 36, 3) := sorry
theorem dX10_image_33 : decode cX10_image 33 = .ok (.dup, 1) := sorry
theorem dX10_image_34 : decode cX10_image 34 = .ok (.invokespecial 38, 3) := sorry
theorem dX10_image_37 : decode cX10_image 37 = .ok (.aastore, 1) := sorry
theorem dX10_image_38 : decode cX10_image 38 = .ok (.aload_n 0, 1) := sorry
theorem dX10_image_39 : decode cX10_image 39 = .ok (.getfield 43, 3) := sorry
theorem dX10_image_42 : decode cX10_image 42 = .ok (.aload_n 0, 1) := sorry
theorem dX10_image_43 : decode cX10_image 43 = .ok (.getfield 95, 3) := sorry
theorem dX10_image_46 : decode cX10_image 46 = .ok (.aaload, 1) := sorry
theorem dX10_image_47 : decode cX10_image 47 = .ok (.aload_n 0, 1) := sorry
theorem dX10_image_48 : decode cX10_image 48 = .ok (.getfield 39, 3) := sorry
theorem dX10_image_51 : decode cX10_image 51 = .ok (.invokevirtual 245, 3) := sorry
theorem dX10_image_54 : decode cX10_image 54 = .ok (.aload_n 0, 1) := sorry
theorem dX10_image_55 : decode cX10_image 55 = .ok (.dup, 1) := sorry
theorem dX10_image_56 : decode cX10_image 56 = .ok (.getfield 95, 3) := sorry
theorem dX10_image_59 : decode cX10_image 59 = .ok (.iconst 1, 1) := sorry
theorem dX10_image_60 : decode cX10_image 60 = .ok (.iadd, 1) := sorry
theorem dX10_image_61 : decode cX10_image 61 = .ok (.putfield 95, 3) := sorry
theorem dX10_image_64 : decode cX10_image 64 = .ok (.aload_n 0, 1) := sorry
theorem dX10_image_65 : decode cX10_image 65 = .ok (.getfield 95, 3) := sorry
theorem dX10_image_68 : decode cX10_image 68 = .ok (.ireturn, 1) := sorry
set_option maxRecDepth 20000 in
theorem ggX10_restore_X8_take : GoodIn wsX10_restore wsX8_take := sorry
set_option maxRecDepth 20000 in
theorem gX10_restore_X8_take : GoodIn wsX10_restore (wsV RX10 245 RX8 yX8_take wsX8_take) := sorry
theorem dX10_restore_0 : decode cX10_restore 0 = .ok (.aload_n 0, 1) := sorry
theorem dX10_restore_1 : decode cX10_restore 1 = .ok (.getfield 95, 3) := sorry
theorem dX10_restore_4 : decode cX10_restore 4 = .ok (.ifCond .le 17, 3) := sorry
theorem dX10_restore_7 : decode cX10_restore 7 = .ok (.aload_n 0, 1) := sorry
theorem dX10_restore_8 : decode cX10_restore 8 = .ok (.getfield 43, 3) := sorry
theorem dX10_restore_11 : decode cX10_restore 11 = .ok (.aload_n 0, 1) := sorry
theorem dX10_restore_12 : decode cX10_restore 12 = .ok (.getfield 95, 3) := sorry
theorem dX10_restore_15 : decode cX10_restore 15 = .ok (.iconst 1, 1) := sorry
theorem dX10_restore_16 : decode cX10_restore 16 = .ok (.isub, 1) := sorry
theorem dX10_restore_17 : decode cX10_restore 17 = .ok (.aaload, 1) := sorry
theorem dX10_restore_18 : decode cX10_restore 18 = .ok (.ifnonnull 5, 3) := sorry
theorem dX10_restore_21 : decode cX10_restore 21 = .ok (.iconst (-1), 1) := sorry
theorem dX10_restore_22 : decode cX10_restore 22 = .ok (.ireturn, 1) := sorry
theorem dX10_restore_23 : decode cX10_restore 23 = .ok (.aload_n 0, 1) := sorry
theorem dX10_restore_24 : decode cX10_restore 24 = .ok (.dup, 1) := sorry
theorem dX10_restore_25 : decode cX10_restore 25 = .ok (.getfield 95, 3) := sorry
theorem dX10_restore_28 : decode cX10_restore 28 = .ok (.iconst 1, 1) := sorry
theorem dX10_restore_29 : decode cX10_restore 29 = .ok (.isub, 1) := sorry
theorem dX10_restore_30 : decode cX10_restore 30 = .ok (.putfield 95, 3) := sorry
theorem dX10_restore_33 : decode cX10_restore 33 = .ok (.aload_n 0, 1) := sorry
theorem dX10_restore_34 : decode cX10_restore 34 = .ok (.getfield 39, 3) := sorry
theorem dX10_restore_37 : decode cX10_restore 37 = .ok (.aload_n 0, 1) := sorry
theorem dX10_restore_38 : decode cX10_restore 38 = .ok (.getfield 43, 3) := sorry
theorem dX10_restore_41 : decode cX10_restore 41 = .ok (.aload_n 0, 1) := sorry
theorem dX10_restore_42 : decode cX10_restore 42 = .ok (.getfield 95, 3) := sorry
theorem dX10_restore_45 : decode cX10_restore 45 = .ok (.aaload, 1) := sorry
theorem dX10_restore_46 : decode cX10_restore 46 = .ok (.invokevirtual 245, 3) := sorry
theorem dX10_restore_49 : decode cX10_restore 49 = .ok (.aload_n 0, 1) := sorry
theorem dX10_restore_50 : decode cX10_restore 50 = .ok (.getfield 95, 3) := sorry
theorem dX10_restore_53 : decode cX10_restore 53 = .ok (.ireturn, 1) := sorry
set_option maxRecDepth 20000 in
theorem ggX10_status_X10_within : GoodIn wsX10_status wsX10_within := sorry
set_option maxRecDepth 20000 in
theorem gX10_status_X10_within : GoodIn wsX10_status (va_wsS RX10 107 yX10_within wsX10_within) := sorry
theorem dX10_status_0 : decode cX10_status 0 = .ok (.iload_n 1, 1) := sorry
theorem dX10_status_1 : decode cX10_status 1 = .ok (.iconst 0, 1) := sorry
theorem dX10_status_2 : decode cX10_status 2 = .ok (.aload_n 0, 1) := sorry
theorem dX10_status_3 : decode cX10_status 3 = .ok (.getfield 61, 3) := sorry
theorem dX10_status_6 : decode cX10_status 6 = .ok (.arraylength, 1) := sorry
theorem dX10_status_7 : decode cX10_status 7 = .ok (.iconst 1, 1) := sorry
theorem dX10_status_8 : decode cX10_status 8 = .ok (.isub, 1) := sorry
theorem dX10_status_9 : decode cX10_status 9 = .ok (.invokestatic 107, 3) := sorry
theorem dX10_status_12 : decode cX10_status 12 = .ok (.ifCond .eq 12, 3) := sorry
theorem dX10_status_15 : decode cX10_status 15 = .ok (.aload_n 0, 1) := sorry
theorem dX10_status_16 : decode cX10_status 16 = .ok (.getfield 61, 3) := sorry
theorem dX10_status_19 : decode cX10_status 19 = .ok (.iload_n 1, 1) := sorry
theorem dX10_status_20 : decode cX10_status 20 = .ok (.iaload, 1) := sorry
theorem dX10_status_21 : decode cX10_status 21 = .ok (.goto 4, 3) := sorry
theorem dX10_status_24 : decode cX10_status 24 = .ok (.iconst (-1), 1) := sorry
theorem dX10_status_25 : decode cX10_status 25 = .ok (.ireturn, 1) := sorry
theorem dX10_count_0 : decode cX10_count 0 = .ok (.iload_n 1, 1) := sorry
theorem dX10_count_1 : decode cX10_count 1 = .ok (.tableswitch 48 0 2 #[27, 32, 37], 27) := sorry
theorem dX10_count_28 : decode cX10_count 28 = .ok (.aload_n 0, 1) := sorry
theorem dX10_count_29 : decode cX10_count 29 = .ok (.getfield 95, 3) := sorry
theorem dX10_count_32 : decode cX10_count 32 = .ok (.ireturn, 1) := sorry
theorem dX10_count_33 : decode cX10_count 33 = .ok (.aload_n 0, 1) := sorry
theorem dX10_count_34 : decode cX10_count 34 = .ok (.getfield 73, 3) := sorry
theorem dX10_count_37 : decode cX10_count 37 = .ok (.ireturn, 1) := sorry
theorem dX10_count_38 : decode cX10_count 38 = .ok (.aload_n 0, 1) := sorry
theorem dX10_count_39 : decode cX10_count 39 = .ok (.getfield 39, 3) := sorry
theorem dX10_count_42 : decode cX10_count 42 = .ok (.getfield 189, 3) := sorry
theorem dX10_count_45 : decode cX10_count 45 = .ok (.getfield 248, 3) := sorry
theorem dX10_count_48 : decode cX10_count 48 = .ok (.ireturn, 1) := sorry
theorem dX10_count_49 : decode cX10_count 49 = .ok (.iconst (-1), 1) := sorry
theorem dX10_count_50 : decode cX10_count 50 = .ok (.ireturn, 1) := sorry
theorem dX10_within_0 : decode cX10_within 0 = .ok (.iload_n 0, 1) := sorry
theorem dX10_within_1 : decode cX10_within 1 = .ok (.iload_n 1, 1) := sorry
theorem dX10_within_2 : decode cX10_within 2 = .ok (.if_icmp .lt 12, 3) := sorry
theorem dX10_within_5 : decode cX10_within 5 = .ok (.iload_n 0, 1) := sorry
theorem dX10_within_6 : decode cX10_within 6 = .ok (.iload_n 2, 1) := sorry
theorem dX10_within_7 : decode cX10_within 7 = .ok (.if_icmp .gt 7, 3) := sorry
theorem dX10_within_10 : decode cX10_within 10 = .ok (.iconst 1, 1) := sorry
theorem dX10_within_11 : decode cX10_within 11 = .ok (.goto 4, 3) := sorry
theorem dX10_within_14 : decode cX10_within 14 = .ok (.iconst 0, 1) := sorry
theorem dX10_within_15 : decode cX10_within 15 = .ok (.ireturn, 1) := sorry
theorem dX10_demand_0 : decode cX10_demand 0 = .ok (.iload_n 1, 1) := sorry
theorem dX10_demand_1 : decode cX10_demand 1 = .ok (.ifCond .ne 23, 3) := sorry
theorem dX10_demand_4 : decode cX10_demand 4 = .ok (.aload_n 0, 1) := sorry
theorem dX10_demand_5 : decode cX10_demand 5 = .ok (.getfield 61, 3) := sorry
theorem dX10_demand_8 : decode cX10_demand 8 = .ok (.iconst 2, 1) := sorry
theorem dX10_demand_9 : decode cX10_demand 9 = .ok (.dup2, 1) := sorry
theorem dX10_demand_10 : decode cX10_demand 10 = .ok (.iaload, 1) := sorry
theorem dX10_demand_11 : decode cX10_demand 11 = .ok (.iconst 1, 1) := sorry
theorem dX10_demand_12 : decode cX10_demand 12 = .ok (.iadd, 1) := sorry
theorem dX10_demand_13 : decode cX10_demand 13 = .ok (.iastore, 1) := sorry
theorem dX10_demand_14 : decode cX10_demand 14 = .ok (.new 251, 3) := sorry
theorem dX10_demand_17 : decode cX10_demand 17 = .ok (.dup, 1) := sorry
theorem dX10_demand_18 : decode cX10_demand 18 = .ok (.ldc 253, 2) := sorry
theorem dX10_demand_20 : decode cX10_demand 20 = .ok (.invokespecial 255, 3) := sorry
theorem dX10_demand_23 : decode cX10_demand 23 = .ok (.athrow, 1) := sorry
theorem dX10_demand_24 : decode cX10_demand 24 = .ok (.return_, 1) := sorry
set_option maxRecDepth 20000 in
theorem ggX10_demandWall_X10_within : GoodIn wsX10_demandWall wsX10_within := sorry
set_option maxRecDepth 20000 in
theorem gX10_demandWall_X10_within : GoodIn wsX10_demandWall (va_wsS RX10 107 yX10_within wsX10_within) := sorry
theorem dX10_demandWall_0 : decode cX10_demandWall 0 = .ok (.iload_n 1, 1) := sorry
theorem dX10_demandWall_1 : decode cX10_demandWall 1 = .ok (.iconst 0, 1) := sorry
theorem dX10_demandWall_2 : decode cX10_demandWall 2 = .ok (.aload_n 0, 1) := sorry
theorem dX10_demandWall_3 : decode cX10_demandWall 3 = .ok (.getfield 23, 3) := sorry
theorem dX10_demandWall_6 : decode cX10_demandWall 6 = .ok (.getfield 99, 3) := sorry
theorem dX10_demandWall_9 : decode cX10_demandWall 9 = .ok (.iconst 1, 1) := sorry
theorem dX10_demandWall_10 : decode cX10_demandWall 10 = .ok (.isub, 1) := sorry
theorem dX10_demandWall_11 : decode cX10_demandWall 11 = .ok (.invokestatic 107, 3) := sorry
theorem dX10_demandWall_14 : decode cX10_demandWall 14 = .ok (.ifCond .ne 24, 3) := sorry
theorem dX10_demandWall_17 : decode cX10_demandWall 17 = .ok (.aload_n 0, 1) := sorry
theorem dX10_demandWall_18 : decode cX10_demandWall 18 = .ok (.getfield 61, 3) := sorry
theorem dX10_demandWall_21 : decode cX10_demandWall 21 = .ok (.iconst 1, 1) := sorry
theorem dX10_demandWall_22 : decode cX10_demandWall 22 = .ok (.dup2, 1) := sorry
theorem dX10_demandWall_23 : decode cX10_demandWall 23 = .ok (.iaload, 1) := sorry
theorem dX10_demandWall_24 : decode cX10_demandWall 24 = .ok (.iconst 1, 1) := sorry
theorem dX10_demandWall_25 : decode cX10_demandWall 25 = .ok (.iadd, 1) := sorry
theorem dX10_demandWall_26 : decode cX10_demandWall 26 = .ok (.iastore, 1) := sorry
theorem dX10_demandWall_27 : decode cX10_demandWall 27 = .ok (.new 258, 3) := sorry
theorem dX10_demandWall_30 : decode cX10_demandWall 30 = .ok (.dup, 1) := sorry
theorem dX10_demandWall_31 : decode cX10_demandWall 31 = .ok (.ldc_w 260, 3) := sorry
theorem dX10_demandWall_34 : decode cX10_demandWall 34 = .ok (.invokespecial 262, 3) := sorry
theorem dX10_demandWall_37 : decode cX10_demandWall 37 = .ok (.athrow, 1) := sorry
theorem dX10_demandWall_38 : decode cX10_demandWall 38 = .ok (.return_, 1) := sorry
set_option maxRecDepth 20000 in
theorem ggX10_demandContract_X10_within : GoodIn wsX10_demandContract wsX10_within := sorry
set_option maxRecDepth 20000 in
theorem gX10_demandContract_X10_within : GoodIn wsX10_demandContract (va_wsS RX10 107 yX10_within wsX10_within) := sorry
theorem dX10_demandContract_0 : decode cX10_demandContract 0 = .ok (.iload_n 1, 1) := sorry
theorem dX10_demandContract_1 : decode cX10_demandContract 1 = .ok (.iconst 0, 1) := sorry
theorem dX10_demandContract_2 : decode cX10_demandContract 2 = .ok (.aload_n 0, 1) := sorry
theorem dX10_demandContract_3 : decode cX10_demandContract 3 = .ok (.getfield 92, 3) := sorry
theorem dX10_demandContract_6 : decode cX10_demandContract 6 = .ok (.iconst 1, 1) := sorry
theorem dX10_demandContract_7 : decode cX10_demandContract 7 = .ok (.isub, 1) := sorry
theorem dX10_demandContract_8 : decode cX10_demandContract 8 = .ok (.invokestatic 107, 3) := sorry
theorem dX10_demandContract_11 : decode cX10_demandContract 11 = .ok (.ifCond .ne 24, 3) := sorry
theorem dX10_demandContract_14 : decode cX10_demandContract 14 = .ok (.aload_n 0, 1) := sorry
theorem dX10_demandContract_15 : decode cX10_demandContract 15 = .ok (.getfield 61, 3) := sorry
theorem dX10_demandContract_18 : decode cX10_demandContract 18 = .ok (.iconst 0, 1) := sorry
theorem dX10_demandContract_19 : decode cX10_demandContract 19 = .ok (.dup2, 1) := sorry
theorem dX10_demandContract_20 : decode cX10_demandContract 20 = .ok (.iaload, 1) := sorry
theorem dX10_demandContract_21 : decode cX10_demandContract 21 = .ok (.iconst 1, 1) := sorry
theorem dX10_demandContract_22 : decode cX10_demandContract 22 = .ok (.iadd, 1) := sorry
theorem dX10_demandContract_23 : decode cX10_demandContract 23 = .ok (.iastore, 1) := sorry
theorem dX10_demandContract_24 : decode cX10_demandContract 24 = .ok (.new 263, 3) := sorry
theorem dX10_demandContract_27 : decode cX10_demandContract 27 = .ok (.dup, 1) := sorry
theorem dX10_demandContract_28 : decode cX10_demandContract 28 = .ok (.ldc_w 265, 3) := sorry
theorem dX10_demandContract_31 : decode cX10_demandContract 31 = .ok (.invokespecial 267, 3) := sorry
theorem dX10_demandContract_34 : decode cX10_demandContract 34 = .ok (.athrow, 1) := sorry
theorem dX10_demandContract_35 : decode cX10_demandContract 35 = .ok (.return_, 1) := sorry
set_option maxRecDepth 20000 in
theorem ggX10_demandContractOrNone_X10_demandContract : GoodIn wsX10_demandContractOrNone wsX10_demandContract := sorry
set_option maxRecDepth 20000 in
theorem gX10_demandContractOrNone_X10_demandContract : GoodIn wsX10_demandContractOrNone (wsV RX10 126 RX10 yX10_demandContract wsX10_demandContract) := sorry
theorem dX10_demandContractOrNone_0 : decode cX10_demandContractOrNone 0 = .ok (.iload_n 1, 1) := sorry
theorem dX10_demandContractOrNone_1 : decode cX10_demandContractOrNone 1 = .ok (.iconst (-1), 1) := sorry
theorem dX10_demandContractOrNone_2 : decode cX10_demandContractOrNone 2 = .ok (.if_icmp .eq 8, 3) := sorry
theorem dX10_demandContractOrNone_5 : decode cX10_demandContractOrNone 5 = .ok (.aload_n 0, 1) := sorry
theorem dX10_demandContractOrNone_6 : decode cX10_demandContractOrNone 6 = .ok (.iload_n 1, 1) := sorry
theorem dX10_demandContractOrNone_7 : decode cX10_demandContractOrNone 7 = .ok (.invokevirtual 126, 3) := sorry
theorem dX10_demandContractOrNone_10 : decode cX10_demandContractOrNone 10 = .ok (.return_, 1) := sorry
set_option maxRecDepth 20000 in
theorem ggX10_inForce_X10_within : GoodIn wsX10_inForce wsX10_within := sorry
set_option maxRecDepth 20000 in
theorem gX10_inForce_X10_within : GoodIn wsX10_inForce (va_wsS RX10 107 yX10_within wsX10_within) := sorry
theorem dX10_inForce_0 : decode cX10_inForce 0 = .ok (.aload_n 1, 1) := sorry
theorem dX10_inForce_1 : decode cX10_inForce 1 = .ok (.getfield 111, 3) := sorry
theorem dX10_inForce_4 : decode cX10_inForce 4 = .ok (.bipush 10, 2) := sorry
theorem dX10_inForce_6 : decode cX10_inForce 6 = .ok (.iaload, 1) := sorry
theorem dX10_inForce_7 : decode cX10_inForce 7 = .ok (.istore_n 2, 1) := sorry
theorem dX10_inForce_8 : decode cX10_inForce 8 = .ok (.iload_n 2, 1) := sorry
theorem dX10_inForce_9 : decode cX10_inForce 9 = .ok (.iconst 0, 1) := sorry
theorem dX10_inForce_10 : decode cX10_inForce 10 = .ok (.bipush 6, 2) := sorry
theorem dX10_inForce_12 : decode cX10_inForce 12 = .ok (.invokestatic 107, 3) := sorry
theorem dX10_inForce_15 : decode cX10_inForce 15 = .ok (.ifCond .eq 12, 3) := sorry
theorem dX10_inForce_18 : decode cX10_inForce 18 = .ok (.aload_n 0, 1) := sorry
theorem dX10_inForce_19 : decode cX10_inForce 19 = .ok (.getfield 32, 3) := sorry
theorem dX10_inForce_22 : decode cX10_inForce 22 = .ok (.iload_n 2, 1) := sorry
theorem dX10_inForce_23 : decode cX10_inForce 23 = .ok (.aaload, 1) := sorry
theorem dX10_inForce_24 : decode cX10_inForce 24 = .ok (.goto 4, 3) := sorry
theorem dX10_inForce_27 : decode cX10_inForce 27 = .ok (.aconst_null, 1) := sorry
theorem dX10_inForce_28 : decode cX10_inForce 28 = .ok (.areturn, 1) := sorry
set_option maxRecDepth 20000 in
theorem ggX10_passTried_X10_inForce : GoodIn wsX10_passTried wsX10_inForce := sorry
set_option maxRecDepth 20000 in
theorem gX10_passTried_X10_inForce : GoodIn wsX10_passTried (wsV RX10 153 RX10 yX10_inForce wsX10_inForce) := sorry
set_option maxRecDepth 20000 in
theorem ggX10_passTried_X4_pass : GoodIn wsX10_passTried wsX4_pass := sorry
set_option maxRecDepth 20000 in
theorem gX10_passTried_X4_pass : GoodIn wsX10_passTried (wsV RX10 157 RX4 yX4_pass wsX4_pass) := sorry
theorem dX10_passTried_0 : decode cX10_passTried 0 = .ok (.iconst 0, 1) := sorry
theorem dX10_passTried_1 : decode cX10_passTried 1 = .ok (.istore_n 2, 1) := sorry
theorem dX10_passTried_2 : decode cX10_passTried 2 = .ok (.iload_n 2, 1) := sorry
theorem dX10_passTried_3 : decode cX10_passTried 3 = .ok (.iload_n 1, 1) := sorry
theorem dX10_passTried_4 : decode cX10_passTried 4 = .ok (.if_icmp .ge 40, 3) := sorry
theorem dX10_passTried_7 : decode cX10_passTried 7 = .ok (.aload_n 0, 1) := sorry
theorem dX10_passTried_8 : decode cX10_passTried 8 = .ok (.getfield 50, 3) := sorry
theorem dX10_passTried_11 : decode cX10_passTried 11 = .ok (.getfield 114, 3) := sorry
theorem dX10_passTried_14 : decode cX10_passTried 14 = .ok (.bipush 120, 2) := sorry
theorem dX10_passTried_16 : decode cX10_passTried 16 = .ok (.if_icmp .ge 28, 3) := sorry
theorem dX10_passTried_19 : decode cX10_passTried 19 = .ok (.aload_n 0, 1) := sorry
theorem dX10_passTried_20 : decode cX10_passTried 20 = .ok (.getfield 50, 3) := sorry
theorem dX10_passTried_23 : decode cX10_passTried 23 = .ok (.aload_n 0, 1) := sorry
theorem dX10_passTried_24 : decode cX10_passTried 24 = .ok (.getfield 23, 3) := sorry
theorem dX10_passTried_27 : decode cX10_passTried 27 = .ok (.aload_n 0, 1) := sorry
theorem dX10_passTried_28 : decode cX10_passTried 28 = .ok (.aload_n 0, 1) := sorry
theorem dX10_passTried_29 : decode cX10_passTried 29 = .ok (.getfield 50, 3) := sorry
theorem dX10_passTried_32 : decode cX10_passTried 32 = .ok (.invokevirtual 153, 3) := sorry
theorem dX10_passTried_35 : decode cX10_passTried 35 = .ok (.invokevirtual 157, 3) := sorry
theorem dX10_passTried_38 : decode cX10_passTried 38 = .ok (.iinc 2 1, 3) := sorry
theorem dX10_passTried_41 : decode cX10_passTried 41 = .ok (.goto (-39), 3) := sorry
theorem dX10_passTried_44 : decode cX10_passTried 44 = .ok (.return_, 1) := sorry
set_option maxRecDepth 20000 in
theorem ggX10_trySigned_X4_take : GoodIn wsX10_trySigned wsX4_take := sorry
set_option maxRecDepth 20000 in
theorem gX10_trySigned_X4_take : GoodIn wsX10_trySigned (wsV RX10 183 RX4 yX4_take wsX4_take) := sorry
set_option maxRecDepth 20000 in
theorem ggX10_trySigned_X4_pledge : GoodIn wsX10_trySigned wsX4_pledge := sorry
set_option maxRecDepth 20000 in
theorem gX10_trySigned_X4_pledge : GoodIn wsX10_trySigned (wsV RX10 140 RX4 yX4_pledge wsX4_pledge) := sorry
set_option maxRecDepth 20000 in
theorem ggX10_trySigned_X10_passTried : GoodIn wsX10_trySigned wsX10_passTried := sorry
set_option maxRecDepth 20000 in
theorem gX10_trySigned_X10_passTried : GoodIn wsX10_trySigned (wsV RX10 186 RX10 yX10_passTried wsX10_passTried) := sorry
theorem dX10_trySigned_0 : decode cX10_trySigned 0 = .ok (.aload_n 0, 1) := sorry
theorem dX10_trySigned_1 : decode cX10_trySigned 1 = .ok (.getfield 50, 3) := sorry
theorem dX10_trySigned_4 : decode cX10_trySigned 4 = .ok (.aload_n 0, 1) := sorry
theorem dX10_trySigned_5 : decode cX10_trySigned 5 = .ok (.getfield 39, 3) := sorry
theorem dX10_trySigned_8 : decode cX10_trySigned 8 = .ok (.getfield 66, 3) := sorry
theorem dX10_trySigned_11 : decode cX10_trySigned 11 = .ok (.invokevirtual 183, 3) := sorry
theorem dX10_trySigned_14 : decode cX10_trySigned 14 = .ok (.aload_n 0, 1) := sorry
theorem dX10_trySigned_15 : decode cX10_trySigned 15 = .ok (.getfield 50, 3) := sorry
theorem dX10_trySigned_18 : decode cX10_trySigned 18 = .ok (.iload_n 1, 1) := sorry
theorem dX10_trySigned_19 : decode cX10_trySigned 19 = .ok (.invokevirtual 140, 3) := sorry
theorem dX10_trySigned_22 : decode cX10_trySigned 22 = .ok (.aload_n 0, 1) := sorry
theorem dX10_trySigned_23 : decode cX10_trySigned 23 = .ok (.iload_n 2, 1) := sorry
theorem dX10_trySigned_24 : decode cX10_trySigned 24 = .ok (.invokevirtual 186, 3) := sorry
theorem dX10_trySigned_27 : decode cX10_trySigned 27 = .ok (.aload_n 0, 1) := sorry
theorem dX10_trySigned_28 : decode cX10_trySigned 28 = .ok (.getfield 50, 3) := sorry
theorem dX10_trySigned_31 : decode cX10_trySigned 31 = .ok (.getfield 111, 3) := sorry
theorem dX10_trySigned_34 : decode cX10_trySigned 34 = .ok (.iconst 0, 1) := sorry
theorem dX10_trySigned_35 : decode cX10_trySigned 35 = .ok (.iaload, 1) := sorry
theorem dX10_trySigned_36 : decode cX10_trySigned 36 = .ok (.ireturn, 1) := sorry
theorem dJ9_abs_0f7a4_0 : decode cJ9_abs_0f7a4 0 = .ok (.iload_n 0, 1) := sorry
theorem dJ9_abs_0f7a4_1 : decode cJ9_abs_0f7a4 1 = .ok (.ifCond .ge 8, 3) := sorry
theorem dJ9_abs_0f7a4_4 : decode cJ9_abs_0f7a4 4 = .ok (.iload_n 0, 1) := sorry
theorem dJ9_abs_0f7a4_5 : decode cJ9_abs_0f7a4 5 = .ok (.ineg, 1) := sorry
theorem dJ9_abs_0f7a4_6 : decode cJ9_abs_0f7a4 6 = .ok (.goto 4, 3) := sorry
theorem dJ9_abs_0f7a4_9 : decode cJ9_abs_0f7a4 9 = .ok (.iload_n 0, 1) := sorry
theorem dJ9_abs_0f7a4_10 : decode cJ9_abs_0f7a4 10 = .ok (.ireturn, 1) := sorry
theorem dJ9_max_7cf53_0 : decode cJ9_max_7cf53 0 = .ok (.iload_n 0, 1) := sorry
theorem dJ9_max_7cf53_1 : decode cJ9_max_7cf53 1 = .ok (.iload_n 1, 1) := sorry
theorem dJ9_max_7cf53_2 : decode cJ9_max_7cf53 2 = .ok (.if_icmp .lt 7, 3) := sorry
theorem dJ9_max_7cf53_5 : decode cJ9_max_7cf53 5 = .ok (.iload_n 0, 1) := sorry
theorem dJ9_max_7cf53_6 : decode cJ9_max_7cf53 6 = .ok (.goto 4, 3) := sorry
theorem dJ9_max_7cf53_9 : decode cJ9_max_7cf53 9 = .ok (.iload_n 1, 1) := sorry
theorem dJ9_max_7cf53_10 : decode cJ9_max_7cf53 10 = .ok (.ireturn, 1) := sorry
theorem dJ9_min_7cf53_0 : decode cJ9_min_7cf53 0 = .ok (.iload_n 0, 1) := sorry
theorem dJ9_min_7cf53_1 : decode cJ9_min_7cf53 1 = .ok (.iload_n 1, 1) := sorry
theorem dJ9_min_7cf53_2 : decode cJ9_min_7cf53 2 = .ok (.if_icmp .gt 7, 3) := sorry
theorem dJ9_min_7cf53_5 : decode cJ9_min_7cf53 5 = .ok (.iload_n 0, 1) := sorry
theorem dJ9_min_7cf53_6 : decode cJ9_min_7cf53 6 = .ok (.goto 4, 3) := sorry
theorem dJ9_min_7cf53_9 : decode cJ9_min_7cf53 9 = .ok (.iload_n 1, 1) := sorry
theorem dJ9_min_7cf53_10 : decode cJ9_min_7cf53 10 = .ok (.ireturn, 1) := sorry
set_option maxRecDepth 20000 in
theorem ggJ0_length_8abf5_J0_coder_7d493 : GoodIn wsJ0_length_8abf5 wsJ0_coder_7d493 := sorry
set_option maxRecDepth 20000 in
theorem gJ0_length_8abf5_J0_coder_7d493 : GoodIn wsJ0_length_8abf5 (wsV RJ0 335 RJ0 yJ0_coder_7d493 wsJ0_coder_7d493) := sorry
theorem dJ0_length_8abf5_0 : decode cJ0_length_8abf5 0 = .ok (.aload_n 0, 1) := sorry
theorem dJ0_length_8abf5_1 : decode cJ0_length_8abf5 1 = .ok (.getfield 9, 3) := sorry
theorem dJ0_length_8abf5_4 : decode cJ0_length_8abf5 4 = .ok (.arraylength, 1) := sorry
theorem dJ0_length_8abf5_5 : decode cJ0_length_8abf5 5 = .ok (.aload_n 0, 1) := sorry
theorem dJ0_length_8abf5_6 : decode cJ0_length_8abf5 6 = .ok (.invokevirtual 335, 3) := sorry
theorem dJ0_length_8abf5_9 : decode cJ0_length_8abf5 9 = .ok (.ishr, 1) := sorry
theorem dJ0_length_8abf5_10 : decode cJ0_length_8abf5 10 = .ok (.ireturn, 1) := sorry
set_option maxRecDepth 20000 in
theorem ggJ0_charAt_5068e_J0_isLatin1_aae02 : GoodIn wsJ0_charAt_5068e wsJ0_isLatin1_aae02 := sorry
set_option maxRecDepth 20000 in
theorem gJ0_charAt_5068e_J0_isLatin1_aae02 : GoodIn wsJ0_charAt_5068e (wsV RJ0 492 RJ0 yJ0_isLatin1_aae02 wsJ0_isLatin1_aae02) := sorry
set_option maxRecDepth 20000 in
theorem ggJ0_charAt_5068e_J1_charAt_3b067 : GoodIn wsJ0_charAt_5068e wsJ1_charAt_3b067 := sorry
set_option maxRecDepth 20000 in
theorem gJ0_charAt_5068e_J1_charAt_3b067 : GoodIn wsJ0_charAt_5068e (va_wsS RJ0 495 yJ1_charAt_3b067 wsJ1_charAt_3b067) := sorry
set_option maxRecDepth 20000 in
theorem ggJ0_charAt_5068e_J2_charAt_3b067 : GoodIn wsJ0_charAt_5068e wsJ2_charAt_3b067 := sorry
set_option maxRecDepth 20000 in
theorem gJ0_charAt_5068e_J2_charAt_3b067 : GoodIn wsJ0_charAt_5068e (va_wsS RJ0 498 yJ2_charAt_3b067 wsJ2_charAt_3b067) := sorry
theorem dJ0_charAt_5068e_0 : decode cJ0_charAt_5068e 0 = .ok (.aload_n 0, 1) := sorry
theorem dJ0_charAt_5068e_1 : decode cJ0_charAt_5068e 1 = .ok (.invokevirtual 492, 3) := sorry
theorem dJ0_charAt_5068e_4 : decode cJ0_charAt_5068e 4 = .ok (.ifCond .eq 12, 3) := sorry
theorem dJ0_charAt_5068e_7 : decode cJ0_charAt_5068e 7 = .ok (.aload_n 0, 1) := sorry
theorem dJ0_charAt_5068e_8 : decode cJ0_charAt_5068e 8 = .ok (.getfield 9, 3) := sorry
theorem dJ0_charAt_5068e_11 : decode cJ0_charAt_5068e 11 = .ok (.iload_n 1, 1) := sorry
theorem dJ0_charAt_5068e_12 : decode cJ0_charAt_5068e 12 = .ok (.invokestatic 495, 3) := sorry
theorem dJ0_charAt_5068e_15 : decode cJ0_charAt_5068e 15 = .ok (.ireturn, 1) := sorry
theorem dJ0_charAt_5068e_16 : decode cJ0_charAt_5068e 16 = .ok (.aload_n 0, 1) := sorry
theorem dJ0_charAt_5068e_17 : decode cJ0_charAt_5068e 17 = .ok (.getfield 9, 3) := sorry
theorem dJ0_charAt_5068e_20 : decode cJ0_charAt_5068e 20 = .ok (.iload_n 1, 1) := sorry
theorem dJ0_charAt_5068e_21 : decode cJ0_charAt_5068e 21 = .ok (.invokestatic 498, 3) := sorry
theorem dJ0_charAt_5068e_24 : decode cJ0_charAt_5068e 24 = .ok (.ireturn, 1) := sorry
theorem dJ0_coder_7d493_0 : decode cJ0_coder_7d493 0 = .ok (.getstatic 38, 3) := sorry
theorem dJ0_coder_7d493_3 : decode cJ0_coder_7d493 3 = .ok (.ifCond .eq 10, 3) := sorry
theorem dJ0_coder_7d493_6 : decode cJ0_coder_7d493 6 = .ok (.aload_n 0, 1) := sorry
theorem dJ0_coder_7d493_7 : decode cJ0_coder_7d493 7 = .ok (.getfield 15, 3) := sorry
theorem dJ0_coder_7d493_10 : decode cJ0_coder_7d493 10 = .ok (.goto 4, 3) := sorry
theorem dJ0_coder_7d493_13 : decode cJ0_coder_7d493 13 = .ok (.iconst 1, 1) := sorry
theorem dJ0_coder_7d493_14 : decode cJ0_coder_7d493 14 = .ok (.ireturn, 1) := sorry
theorem dJ0_isLatin1_aae02_0 : decode cJ0_isLatin1_aae02 0 = .ok (.getstatic 38, 3) := sorry
theorem dJ0_isLatin1_aae02_3 : decode cJ0_isLatin1_aae02 3 = .ok (.ifCond .eq 14, 3) := sorry
theorem dJ0_isLatin1_aae02_6 : decode cJ0_isLatin1_aae02 6 = .ok (.aload_n 0, 1) := sorry
theorem dJ0_isLatin1_aae02_7 : decode cJ0_isLatin1_aae02 7 = .ok (.getfield 15, 3) := sorry
theorem dJ0_isLatin1_aae02_10 : decode cJ0_isLatin1_aae02 10 = .ok (.ifCond .ne 7, 3) := sorry
theorem dJ0_isLatin1_aae02_13 : decode cJ0_isLatin1_aae02 13 = .ok (.iconst 1, 1) := sorry
theorem dJ0_isLatin1_aae02_14 : decode cJ0_isLatin1_aae02 14 = .ok (.goto 4, 3) := sorry
theorem dJ0_isLatin1_aae02_17 : decode cJ0_isLatin1_aae02 17 = .ok (.iconst 0, 1) := sorry
theorem dJ0_isLatin1_aae02_18 : decode cJ0_isLatin1_aae02 18 = .ok (.ireturn, 1) := sorry
set_option maxRecDepth 20000 in
theorem ggJ0_checkIndex_df160_J3_checkIndex_8e157 : GoodIn wsJ0_checkIndex_df160 wsJ3_checkIndex_8e157 := sorry
set_option maxRecDepth 20000 in
theorem gJ0_checkIndex_df160_J3_checkIndex_8e157 : GoodIn wsJ0_checkIndex_df160 (va_wsS RJ0 1059 yJ3_checkIndex_8e157 wsJ3_checkIndex_8e157) := sorry
theorem dJ0_checkIndex_df160_0 : decode cJ0_checkIndex_df160 0 = .ok (.iload_n 0, 1) := sorry
theorem dJ0_checkIndex_df160_1 : decode cJ0_checkIndex_df160 1 = .ok (.iload_n 1, 1) := sorry
theorem dJ0_checkIndex_df160_2 : decode cJ0_checkIndex_df160 2 = .ok (.getstatic 1053, 3) := sorry
theorem dJ0_checkIndex_df160_5 : decode cJ0_checkIndex_df160 5 = .ok (.invokestatic 1059, 3) := sorry
theorem dJ0_checkIndex_df160_8 : decode cJ0_checkIndex_df160 8 = .ok (.pop, 1) := sorry
theorem dJ0_checkIndex_df160_9 : decode cJ0_checkIndex_df160 9 = .ok (.return_, 1) := sorry
set_option maxRecDepth 20000 in
theorem ggJ1_charAt_3b067_J0_checkIndex_df160 : GoodIn wsJ1_charAt_3b067 wsJ0_checkIndex_df160 := sorry
set_option maxRecDepth 20000 in
theorem gJ1_charAt_3b067_J0_checkIndex_df160 : GoodIn wsJ1_charAt_3b067 (va_wsS RJ1 9 yJ0_checkIndex_df160 wsJ0_checkIndex_df160) := sorry
theorem dJ1_charAt_3b067_0 : decode cJ1_charAt_3b067 0 = .ok (.iload_n 1, 1) := sorry
theorem dJ1_charAt_3b067_1 : decode cJ1_charAt_3b067 1 = .ok (.aload_n 0, 1) := sorry
theorem dJ1_charAt_3b067_2 : decode cJ1_charAt_3b067 2 = .ok (.arraylength, 1) := sorry
theorem dJ1_charAt_3b067_3 : decode cJ1_charAt_3b067 3 = .ok (.invokestatic 9, 3) := sorry
theorem dJ1_charAt_3b067_6 : decode cJ1_charAt_3b067 6 = .ok (.aload_n 0, 1) := sorry
theorem dJ1_charAt_3b067_7 : decode cJ1_charAt_3b067 7 = .ok (.iload_n 1, 1) := sorry
theorem dJ1_charAt_3b067_8 : decode cJ1_charAt_3b067 8 = .ok (.baload, 1) := sorry
theorem dJ1_charAt_3b067_9 : decode cJ1_charAt_3b067 9 = .ok (.sipush 255, 3) := sorry
theorem dJ1_charAt_3b067_12 : decode cJ1_charAt_3b067 12 = .ok (.iand, 1) := sorry
theorem dJ1_charAt_3b067_13 : decode cJ1_charAt_3b067 13 = .ok (.i2c, 1) := sorry
theorem dJ1_charAt_3b067_14 : decode cJ1_charAt_3b067 14 = .ok (.ireturn, 1) := sorry
set_option maxRecDepth 20000 in
theorem ggJ2_getChar_3b067_J2_length_9d52b : GoodIn wsJ2_getChar_3b067 wsJ2_length_9d52b := sorry
set_option maxRecDepth 20000 in
theorem gJ2_getChar_3b067_J2_length_9d52b : GoodIn wsJ2_getChar_3b067 (va_wsS RJ2 48 yJ2_length_9d52b wsJ2_length_9d52b) := sorry
theorem dJ2_getChar_3b067_0 : decode cJ2_getChar_3b067 0 = .ok (.getstatic 44, 3) := sorry
theorem dJ2_getChar_3b067_3 : decode cJ2_getChar_3b067 3 = .ok (.ifCond .ne 25, 3) := sorry
theorem dJ2_getChar_3b067_6 : decode cJ2_getChar_3b067 6 = .ok (.iload_n 1, 1) := sorry
theorem dJ2_getChar_3b067_7 : decode cJ2_getChar_3b067 7 = .ok (.ifCond .lt 11, 3) := sorry
theorem dJ2_getChar_3b067_10 : decode cJ2_getChar_3b067 10 = .ok (.iload_n 1, 1) := sorry
theorem dJ2_getChar_3b067_11 : decode cJ2_getChar_3b067 11 = .ok (.aload_n 0, 1) := sorry
theorem dJ2_getChar_3b067_12 : decode cJ2_getChar_3b067 12 = .ok (.invokestatic 48, 3) := sorry
theorem dJ2_getChar_3b067_15 : decode cJ2_getChar_3b067 15 = .ok (.if_icmp .lt 13, 3) := sorry
theorem dJ2_getChar_3b067_18 : decode cJ2_getChar_3b067 18 = .ok (.new 52, 3) := sorry
theorem dJ2_getChar_3b067_21 : decode cJ2_getChar_3b067 21 = .ok (.dup, 1) := sorry
theorem dJ2_getChar_3b067_22 : decode cJ2_getChar_3b067 22 = .ok (.ldc 54, 2) := sorry
theorem dJ2_getChar_3b067_24 : decode cJ2_getChar_3b067 24 = .ok (.invokespecial 56, 3) := sorry
theorem dJ2_getChar_3b067_27 : decode cJ2_getChar_3b067 27 = .ok (.athrow, 1) := sorry
theorem dJ2_getChar_3b067_28 : decode cJ2_getChar_3b067 28 = .ok (.iload_n 1, 1) := sorry
theorem dJ2_getChar_3b067_29 : decode cJ2_getChar_3b067 29 = .ok (.iconst 1, 1) := sorry
theorem dJ2_getChar_3b067_30 : decode cJ2_getChar_3b067 30 = .ok (.ishl, 1) := sorry
theorem dJ2_getChar_3b067_31 : decode cJ2_getChar_3b067 31 = .ok (.istore_n 1, 1) := sorry
theorem dJ2_getChar_3b067_32 : decode cJ2_getChar_3b067 32 = .ok (.aload_n 0, 1) := sorry
theorem dJ2_getChar_3b067_33 : decode cJ2_getChar_3b067 33 = .ok (.iload_n 1, 1) := sorry
theorem dJ2_getChar_3b067_34 : decode cJ2_getChar_3b067 34 = .ok (.iinc 1 1, 3) := sorry
theorem dJ2_getChar_3b067_37 : decode cJ2_getChar_3b067 37 = .ok (.baload, 1) := sorry
theorem dJ2_getChar_3b067_38 : decode cJ2_getChar_3b067 38 = .ok (.sipush 255, 3) := sorry
theorem dJ2_getChar_3b067_41 : decode cJ2_getChar_3b067 41 = .ok (.iand, 1) := sorry
theorem dJ2_getChar_3b067_42 : decode cJ2_getChar_3b067 42 = .ok (.getstatic 59, 3) := sorry
theorem dJ2_getChar_3b067_45 : decode cJ2_getChar_3b067 45 = .ok (.ishl, 1) := sorry
theorem dJ2_getChar_3b067_46 : decode cJ2_getChar_3b067 46 = .ok (.aload_n 0, 1) := sorry
theorem dJ2_getChar_3b067_47 : decode cJ2_getChar_3b067 47 = .ok (.iload_n 1, 1) := sorry
theorem dJ2_getChar_3b067_48 : decode cJ2_getChar_3b067 48 = .ok (.baload, 1) := sorry
theorem dJ2_getChar_3b067_49 : decode cJ2_getChar_3b067 49 = .ok (.sipush 255, 3) := sorry
theorem dJ2_getChar_3b067_52 : decode cJ2_getChar_3b067 52 = .ok (.iand, 1) := sorry
theorem dJ2_getChar_3b067_53 : decode cJ2_getChar_3b067 53 = .ok (.getstatic 63, 3) := sorry
theorem dJ2_getChar_3b067_56 : decode cJ2_getChar_3b067 56 = .ok (.ishl, 1) := sorry
theorem dJ2_getChar_3b067_57 : decode cJ2_getChar_3b067 57 = .ok (.ior, 1) := sorry
theorem dJ2_getChar_3b067_58 : decode cJ2_getChar_3b067 58 = .ok (.i2c, 1) := sorry
theorem dJ2_getChar_3b067_59 : decode cJ2_getChar_3b067 59 = .ok (.ireturn, 1) := sorry
theorem dJ2_length_9d52b_0 : decode cJ2_length_9d52b 0 = .ok (.aload_n 0, 1) := sorry
theorem dJ2_length_9d52b_1 : decode cJ2_length_9d52b 1 = .ok (.arraylength, 1) := sorry
theorem dJ2_length_9d52b_2 : decode cJ2_length_9d52b 2 = .ok (.iconst 1, 1) := sorry
theorem dJ2_length_9d52b_3 : decode cJ2_length_9d52b 3 = .ok (.ishr, 1) := sorry
theorem dJ2_length_9d52b_4 : decode cJ2_length_9d52b 4 = .ok (.ireturn, 1) := sorry
set_option maxRecDepth 20000 in
theorem ggJ2_charAt_3b067_J2_checkIndex_2214a : GoodIn wsJ2_charAt_3b067 wsJ2_checkIndex_2214a := sorry
set_option maxRecDepth 20000 in
theorem gJ2_charAt_3b067_J2_checkIndex_2214a : GoodIn wsJ2_charAt_3b067 (va_wsS RJ2 67 yJ2_checkIndex_2214a wsJ2_checkIndex_2214a) := sorry
set_option maxRecDepth 20000 in
theorem ggJ2_charAt_3b067_J2_getChar_3b067 : GoodIn wsJ2_charAt_3b067 wsJ2_getChar_3b067 := sorry
set_option maxRecDepth 20000 in
theorem gJ2_charAt_3b067_J2_getChar_3b067 : GoodIn wsJ2_charAt_3b067 (va_wsS RJ2 71 yJ2_getChar_3b067 wsJ2_getChar_3b067) := sorry
theorem dJ2_charAt_3b067_0 : decode cJ2_charAt_3b067 0 = .ok (.iload_n 1, 1) := sorry
theorem dJ2_charAt_3b067_1 : decode cJ2_charAt_3b067 1 = .ok (.aload_n 0, 1) := sorry
theorem dJ2_charAt_3b067_2 : decode cJ2_charAt_3b067 2 = .ok (.invokestatic 67, 3) := sorry
theorem dJ2_charAt_3b067_5 : decode cJ2_charAt_3b067 5 = .ok (.aload_n 0, 1) := sorry
theorem dJ2_charAt_3b067_6 : decode cJ2_charAt_3b067 6 = .ok (.iload_n 1, 1) := sorry
theorem dJ2_charAt_3b067_7 : decode cJ2_charAt_3b067 7 = .ok (.invokestatic 71, 3) := sorry
theorem dJ2_charAt_3b067_10 : decode cJ2_charAt_3b067 10 = .ok (.ireturn, 1) := sorry
set_option maxRecDepth 20000 in
theorem ggJ2_checkIndex_2214a_J2_length_9d52b : GoodIn wsJ2_checkIndex_2214a wsJ2_length_9d52b := sorry
set_option maxRecDepth 20000 in
theorem gJ2_checkIndex_2214a_J2_length_9d52b : GoodIn wsJ2_checkIndex_2214a (va_wsS RJ2 48 yJ2_length_9d52b wsJ2_length_9d52b) := sorry
set_option maxRecDepth 20000 in
theorem ggJ2_checkIndex_2214a_J0_checkIndex_df160 : GoodIn wsJ2_checkIndex_2214a wsJ0_checkIndex_df160 := sorry
set_option maxRecDepth 20000 in
theorem gJ2_checkIndex_2214a_J0_checkIndex_df160 : GoodIn wsJ2_checkIndex_2214a (va_wsS RJ2 414 yJ0_checkIndex_df160 wsJ0_checkIndex_df160) := sorry
theorem dJ2_checkIndex_2214a_0 : decode cJ2_checkIndex_2214a 0 = .ok (.iload_n 0, 1) := sorry
theorem dJ2_checkIndex_2214a_1 : decode cJ2_checkIndex_2214a 1 = .ok (.aload_n 1, 1) := sorry
theorem dJ2_checkIndex_2214a_2 : decode cJ2_checkIndex_2214a 2 = .ok (.invokestatic 48, 3) := sorry
theorem dJ2_checkIndex_2214a_5 : decode cJ2_checkIndex_2214a 5 = .ok (.invokestatic 414, 3) := sorry
theorem dJ2_checkIndex_2214a_8 : decode cJ2_checkIndex_2214a 8 = .ok (.return_, 1) := sorry
theorem dJ7_fill_53178_0 : decode cJ7_fill_53178 0 = .ok (.iconst 0, 1) := sorry
theorem dJ7_fill_53178_1 : decode cJ7_fill_53178 1 = .ok (.istore_n 2, 1) := sorry
theorem dJ7_fill_53178_2 : decode cJ7_fill_53178 2 = .ok (.aload_n 0, 1) := sorry
theorem dJ7_fill_53178_3 : decode cJ7_fill_53178 3 = .ok (.arraylength, 1) := sorry
theorem dJ7_fill_53178_4 : decode cJ7_fill_53178 4 = .ok (.istore_n 3, 1) := sorry
theorem dJ7_fill_53178_5 : decode cJ7_fill_53178 5 = .ok (.iload_n 2, 1) := sorry
theorem dJ7_fill_53178_6 : decode cJ7_fill_53178 6 = .ok (.iload_n 3, 1) := sorry
theorem dJ7_fill_53178_7 : decode cJ7_fill_53178 7 = .ok (.if_icmp .ge 13, 3) := sorry
theorem dJ7_fill_53178_10 : decode cJ7_fill_53178 10 = .ok (.aload_n 0, 1) := sorry
theorem dJ7_fill_53178_11 : decode cJ7_fill_53178 11 = .ok (.iload_n 2, 1) := sorry
theorem dJ7_fill_53178_12 : decode cJ7_fill_53178 12 = .ok (.iload_n 1, 1) := sorry
theorem dJ7_fill_53178_13 : decode cJ7_fill_53178 13 = .ok (.iastore, 1) := sorry
theorem dJ7_fill_53178_14 : decode cJ7_fill_53178 14 = .ok (.iinc 2 1, 3) := sorry
theorem dJ7_fill_53178_17 : decode cJ7_fill_53178 17 = .ok (.goto (-12), 3) := sorry
theorem dJ7_fill_53178_20 : decode cJ7_fill_53178 20 = .ok (.return_, 1) := sorry
theorem dJ3_checkIndex_8e157_0 : decode cJ3_checkIndex_8e157 0 = .ok (.iload_n 0, 1) := sorry
theorem dJ3_checkIndex_8e157_1 : decode cJ3_checkIndex_8e157 1 = .ok (.ifCond .lt 8, 3) := sorry
theorem dJ3_checkIndex_8e157_4 : decode cJ3_checkIndex_8e157 4 = .ok (.iload_n 0, 1) := sorry
theorem dJ3_checkIndex_8e157_5 : decode cJ3_checkIndex_8e157 5 = .ok (.iload_n 1, 1) := sorry
theorem dJ3_checkIndex_8e157_6 : decode cJ3_checkIndex_8e157 6 = .ok (.if_icmp .lt 10, 3) := sorry
theorem dJ3_checkIndex_8e157_9 : decode cJ3_checkIndex_8e157 9 = .ok (.aload_n 2, 1) := sorry
theorem dJ3_checkIndex_8e157_10 : decode cJ3_checkIndex_8e157 10 = .ok (.iload_n 0, 1) := sorry
theorem dJ3_checkIndex_8e157_11 : decode cJ3_checkIndex_8e157 11 = .ok (.iload_n 1, 1) := sorry
theorem dJ3_checkIndex_8e157_12 : decode cJ3_checkIndex_8e157 12 = .ok (.invokestatic 95, 3) := sorry
theorem dJ3_checkIndex_8e157_15 : decode cJ3_checkIndex_8e157 15 = .ok (.athrow, 1) := sorry
theorem dJ3_checkIndex_8e157_16 : decode cJ3_checkIndex_8e157 16 = .ok (.iload_n 0, 1) := sorry
theorem dJ3_checkIndex_8e157_17 : decode cJ3_checkIndex_8e157 17 = .ok (.ireturn, 1) := sorry
abbrev vwCl : List vw_C := [(RX0, TX0, 1), (RX1, TX1, 5), (RX2, TX2, 7), (RX3, TX3, 2), (RX4, TX4, 3), (RX5, TX5, 3), (RX6, TX6, 5), (RX7, TX7, 6), (RX8, TX8, 4), (RX10, TX10, 13), (RX11, TX11, 35)]
/-! ===== END printed: names ===== -/

